set_option maxHeartbeats 4000000 in
set_option maxRecDepth 100000 in
theorem c2078_X9_requireRange (l : Launch) (g : gG) (hlx : l.stackTraces = false) (x1 : Int32) (h2 : (0 : Int32) ≤ x1) (h3 : (5000 : Int32) < x1) (sz : Nat) : vx_Met l yX9_requireRange [Cond.code yX9_requireRange cX9_requireRange 3 none] ({ frames := 6, cells := 1, slots := 6, locals := 100 } : Room) (va_Pc [.int x1, .int 0, .int 5000] (PZ g sz [])) NV (XW g [] sz "java/lang/IllegalArgumentException" []) 1 6 (va_A [] sz) := by
  refine ofX (by decide) (Nat.le_of_ble_eq_true rfl) rfl ?_
  intro p e s m args below meth c A ls hAe hsz hx hb hml hr hlocks hin hown hE hP hD hA hS hl hex hz
  have hown : s.vm.findClass RX9 = some m.cls := hown
  refine lv_iload_n hx hb dX9_requireRange_0 rfl (lv_at hl 0 rfl) ?_
  refine lv_iload_n hx hb dX9_requireRange_1 rfl (lv_at hl 1 rfl) ?_
  refine lv_icmp_lt (tgt := 10) hx hb dX9_requireRange_2 (by decide) (fun h => absurd h (i_nlt h2)) (fun _ => ?_)
  refine lv_iload_n hx hb dX9_requireRange_5 rfl (lv_at hl 0 rfl) ?_
  refine lv_iload_n hx hb dX9_requireRange_6 rfl (lv_at hl 2 rfl) ?_
  refine lv_icmp_le (tgt := 21) hx hb dX9_requireRange_7 (by decide) (fun h => absurd h (i_nle h3)) (fun _ => ?_)
  exact x_throwW (text := "a number is out of range") (names := ["java/lang/RuntimeException", "java/lang/Exception"]) hx hb hlx hown hE (by decide) (by decide) (e639 hE) (e20 hE) (by decide +kernel) (th_215 hE) tg_215_211 hz (by rw [hml]; exact hl.1) dX9_requireRange_10 dX9_requireRange_13 dX9_requireRange_14 dX9_requireRange_17 dX9_requireRange_20 hex (Nat.le_of_ble_eq_true rfl) (Nat.le_of_ble_eq_true rfl) (Nat.le_of_ble_eq_true rfl) (Nat.le_of_ble_eq_true rfl) hlocks hP hD hS hAe hsz (Nat.le_of_ble_eq_true rfl) (Nat.le_of_ble_eq_true rfl) [] (by decide) rfl

set_option maxHeartbeats 4000000 in
set_option maxRecDepth 100000 in
theorem c2079_X9_setEnvelope (l : Launch) (g : gG) (hlx : l.stackTraces = false) (q1 : Nat) (x2 x3 x4 x5 x6 : Int32) (h7 : (0 : Int32) ≤ x2) (h8 : x2 < 4) (h9 : (0 : Int32) ≤ x3) (h10 : x3 ≤ 5000) (h11 : (0 : Int32) ≤ x4) (h12 : x4 ≤ 5000) (h13 : (0 : Int32) ≤ x5) (h14 : x5 ≤ 100) (h15 : (0 : Int32) ≤ x6) (h16 : (5000 : Int32) < x6) (sz : Nat) : vx_Met l yX9_setEnvelope [Cond.code yX9_setEnvelope cX9_setEnvelope 7 (some .int)] ({ frames := 7, cells := 1, slots := 6, locals := 122 } : Room) (va_Pc [.ref q1, .int x2, .int x3, .int x4, .int x5, .int x6] (PZ g sz [])) NI (XW g [] sz "java/lang/IllegalArgumentException" []) 1 6 (va_A [] sz) := by
  refine ofX (by decide) (Nat.le_of_ble_eq_true rfl) rfl ?_
  intro p e s m args below meth c A ls hAe hsz hx hb hml hr hlocks hin hown hE hP hD hA hS hl hex hz
  have hown : s.vm.findClass RX9 = some m.cls := hown
  refine lv_iload_n hx hb dX9_setEnvelope_0 rfl (lv_at hl 1 rfl) ?_
  refine g0_v (rS (rest := []) hx hb hml hown hE hP hD (c1854_X9_requireInstrument l g x2 h7 h8 s.heap.size) (kS_X9_requireInstrument hE (e991 hE) rfl rfl ⟨(Nat.le_of_ble_eq_true rfl), (Nat.le_of_ble_eq_true rfl)⟩) [] rfl (by decide) rfl hl.1 rfl (lv_room (Nat.le_of_ble_eq_true rfl)) dX9_setEnvelope_1 ⟨(Nat.le_of_ble_eq_true rfl), (Nat.le_of_ble_eq_true rfl)⟩) hP hD hS hA (fun u9 H locs hP hS => ?_)
  refine lv_iload_n hx hb dX9_setEnvelope_4 rfl (lv_at hl 2 rfl) ?_
  refine lv_iconst (v := 0) hx hb dX9_setEnvelope_5 (by decide) ?_
  refine lv_sipush (v := 5000) hx hb dX9_setEnvelope_6 (by decide) ?_
  refine g0_v (rS (rest := []) hx hb hml hown hE hP hD (c1859_X9_requireRange l g x3 h9 h10 H.size) (kS_X9_requireRange hE (e636 hE) rfl rfl ⟨(Nat.le_of_ble_eq_true rfl), (Nat.le_of_ble_eq_true rfl)⟩) [] rfl (by decide) rfl hl.1 rfl (lv_room (Nat.le_of_ble_eq_true rfl)) dX9_setEnvelope_9 ⟨(Nat.le_of_ble_eq_true rfl), (Nat.le_of_ble_eq_true rfl)⟩) hP hD hS hA (fun u9 H locs hP hS => ?_)
  refine lv_iload_n hx hb dX9_setEnvelope_12 rfl (lv_at hl 3 rfl) ?_
  refine lv_iconst (v := 0) hx hb dX9_setEnvelope_13 (by decide) ?_
  refine lv_sipush (v := 5000) hx hb dX9_setEnvelope_14 (by decide) ?_
  refine g0_v (rS (rest := []) hx hb hml hown hE hP hD (c1859_X9_requireRange l g x4 h11 h12 H.size) (kS_X9_requireRange hE (e636 hE) rfl rfl ⟨(Nat.le_of_ble_eq_true rfl), (Nat.le_of_ble_eq_true rfl)⟩) [] rfl (by decide) rfl hl.1 rfl (lv_room (Nat.le_of_ble_eq_true rfl)) dX9_setEnvelope_17 ⟨(Nat.le_of_ble_eq_true rfl), (Nat.le_of_ble_eq_true rfl)⟩) hP hD hS hA (fun u9 H locs hP hS => ?_)
  refine lv_iload hx hb dX9_setEnvelope_20 (lv_at hl 4 rfl) ?_
  refine lv_iconst (v := 0) hx hb dX9_setEnvelope_22 (by decide) ?_
  refine lv_bipush (v := 100) hx hb dX9_setEnvelope_23 (by decide) ?_
  refine g0_v (rS (rest := []) hx hb hml hown hE hP hD (c1866_X9_requireRange l g x5 h13 h14 H.size) (kS_X9_requireRange hE (e636 hE) rfl rfl ⟨(Nat.le_of_ble_eq_true rfl), (Nat.le_of_ble_eq_true rfl)⟩) [] rfl (by decide) rfl hl.1 rfl (lv_room (Nat.le_of_ble_eq_true rfl)) dX9_setEnvelope_25 ⟨(Nat.le_of_ble_eq_true rfl), (Nat.le_of_ble_eq_true rfl)⟩) hP hD hS hA (fun u9 H locs hP hS => ?_)
  refine lv_iload hx hb dX9_setEnvelope_28 (lv_at hl 5 rfl) ?_
  refine lv_iconst (v := 0) hx hb dX9_setEnvelope_30 (by decide) ?_
  refine lv_sipush (v := 5000) hx hb dX9_setEnvelope_31 (by decide) ?_
  refine gx_v (wr := []) (rSx (rest := []) hx hb hml hown hE hP hD hS hA hz (c2078_X9_requireRange l g hlx x6 h15 h16 H.size) (kS_X9_requireRange hE (e636 hE) rfl rfl ⟨(Nat.le_of_ble_eq_true rfl), (Nat.le_of_ble_eq_true rfl)⟩) [] rfl (by decide) rfl hl.1 rfl (lv_room (Nat.le_of_ble_eq_true rfl)) dX9_setEnvelope_34 ⟨(Nat.le_of_ble_eq_true rfl), (Nat.le_of_ble_eq_true rfl)⟩) hP hD hS hA [] [] rfl rfl (by decide) (by decide) (fun ce9 q9 H locs hP hD hS hq1 hq2 hq3 => ?_)
  exact x_out hex hlocks hq1 hq2 hq3 hP hD hS hAe hsz (Nat.le_of_ble_eq_true rfl) (Nat.le_of_ble_eq_true rfl) [] (by decide) rfl

set_option maxHeartbeats 4000000 in
set_option maxRecDepth 100000 in
theorem c2080_L_setEnvelope (l : Launch) (g : gG) (hlx : l.stackTraces = false) (q1 q7 : Nat) (x2 x3 x4 x5 x6 : Int32) (w18 w19 w20 w21 w22 w23 w24 w25 w26 w27 w28 : Value) (h8 : (0 : Int32) ≤ x2) (h9 : x2 < 4) (h10 : (0 : Int32) ≤ x3) (h11 : x3 ≤ 5000) (h12 : (0 : Int32) ≤ x4) (h13 : x4 ≤ 5000) (h14 : (0 : Int32) ≤ x5) (h15 : x5 ≤ 100) (h16 : (0 : Int32) ≤ x6) (h17 : (5000 : Int32) < x6) (sz : Nat) : Met l yL_setEnvelope [Cond.codeWith yL_setEnvelope cL_setEnvelope 8 (some .int) [(0, 16, 19, 13), (0, 16, 23, 15)]] ({ frames := 8, cells := 1, slots := 6, locals := 148 } : Room) (va_Pc [.ref q1, .int x2, .int x3, .int x4, .int x5, .int x6, .ref q7] (PZ g sz [(q1, .inr (11, [w18, w19, w20, w21, w22, w23, w24, w25, w26, w27, w28]))])) (QI g [(q1, .inr (11, [w18, w19, w20, w21, w22, w23, w24, w25, w26, w27, w28]))] sz 2 (fun _ => [])) 1 6 (va_A [(q1, .inr (11, [w18, w19, w20, w21, w22, w23, w24, w25, w26, w27, w28]))] sz) := by
  refine ofH (by decide) (Nat.le_of_ble_eq_true rfl) rfl ?_
  intro p e s m args below meth c A ls hAe hsz hx hb hml hr hlocks hin hown hE hP hD hA hS hl htb hz
  have hown : s.vm.findClass RL = some m.cls := hown
  refine lv_aload hx hb dL_setEnvelope_0 (lv_at hl 6 rfl) ?_
  refine lv_iconst (v := 0) hx hb dL_setEnvelope_2 (by decide) ?_
  refine lv_aload_n hx hb dL_setEnvelope_3 rfl (lv_at hl 0 rfl) ?_
  refine lv_iload_n hx hb dL_setEnvelope_4 rfl (lv_at hl 1 rfl) ?_
  refine lv_iload_n hx hb dL_setEnvelope_5 rfl (lv_at hl 2 rfl) ?_
  refine lv_iload_n hx hb dL_setEnvelope_6 rfl (lv_at hl 3 rfl) ?_
  refine lv_iload hx hb dL_setEnvelope_7 (lv_at hl 4 rfl) ?_
  refine lv_iload hx hb dL_setEnvelope_9 (lv_at hl 5 rfl) ?_
  refine gx_i (wr := [(q1, .inr (11, [w18, w19, w20, w21, w22, w23, w24, w25, w26, w27, w28]))]) (rVx (rest := [.int 0, .ref q7]) hx hb hml hown hE hP hD hS hA hz 0 rfl rfl (c2079_X9_setEnvelope l g hlx q1 x2 x3 x4 x5 x6 h8 h9 h10 h11 h12 h13 h14 h15 h16 h17 s.heap.size) (kV_X9_setEnvelope hE (e987 hE) rfl rfl ⟨(Nat.le_of_ble_eq_true rfl), (Nat.le_of_ble_eq_true rfl)⟩) [] rfl (by decide) rfl hl.1 rfl (lv_room (Nat.le_of_ble_eq_true rfl)) dL_setEnvelope_11 ⟨(Nat.le_of_ble_eq_true rfl), (Nat.le_of_ble_eq_true rfl)⟩) hP hD hS hA [] [0] rfl rfl (by decide) (by decide) (fun ce9 q9 H locs hP hD hS hq1 hq2 hq3 => ?_)
  have hP : va_P g.1 vwCl [(q1, .inr (11, [w18, w19, w20, w21, w22, w23, w24, w25, w26, w27, w28]))] H := hP
  have hD : va_D A [(q1, .inr (11, [w18, w19, w20, w21, w22, w23, w24, w25, w26, w27, w28]))] := hD
  refine x_catch (name := "java/lang/IllegalArgumentException") (hh := [(0, 16, 19, 13), (0, 16, 23, 15)]) (tgt := 23) hown htb [⟨0, 16, 19, 13⟩] ⟨0, 16, 23, 15⟩ [] rfl (fun z hz => by
    rcases List.mem_cons.mp hz with rfl | hz
    · exact Or.inr ⟨by decide, "java/lang/IndexOutOfBoundsException", e532 hE, hE.2.2.2.2.2 ("java/lang/IllegalArgumentException", "java/lang/IndexOutOfBoundsException") (by decide +kernel)⟩
    exact nomatch hz) rfl (by decide) (e611 hE) (e641 hE) hq1 hq2 hq3 rfl ?_
  refine lv_astore (lv' := [(7, .ref q9), (0, .ref q1), (1, .int x2), (2, .int x3), (3, .int x4), (4, .int x5), (5, .int x6), (6, .ref q7)]) hx hb dL_setEnvelope_23 hl (by decide) rfl (fun ls hl => ?_)
  refine lv_iconst (v := 2) hx hb dL_setEnvelope_25 (by decide) ?_
  exact x_zret hx hb hr rfl rfl hlocks hP hD hS hAe hsz (Nat.le_of_ble_eq_true rfl) (Nat.le_of_ble_eq_true rfl) (fun _ => 0) [] (by decide) rfl dL_setEnvelope_26

set_option maxHeartbeats 4000000 in
set_option maxRecDepth 100000 in
theorem c2081_X10_setEnvelope (l : Launch) (g : gG) (q1 : Nat) (x2 x3 x4 x5 x6 : Int32) (w17 w18 w19 w20 w21 w22 w23 w24 w25 w26 w27 w28 w29 w30 w31 w32 w33 w34 w35 w36 w37 w38 w39 w40 w41 w42 w43 w44 w45 w46 w47 w48 w49 w50 w51 w52 w53 : Value) (h7 : (0 : Int32) ≤ x3) (h8 : x3 ≤ 5000) (h9 : (0 : Int32) ≤ x4) (h10 : x4 ≤ 5000) (h11 : (0 : Int32) ≤ x5) (h12 : x5 ≤ 100) (h13 : (0 : Int32) ≤ x6) (h14 : (5000 : Int32) < x6) (h15 : (0 : Int32) ≤ x2) (h16 : x2 ≤ 3) (sz : Nat) : Met l yX10_setEnvelope [Cond.code yX10_setEnvelope cX10_setEnvelope 12 (some .int)] ({ frames := 2, cells := 0, slots := 0, locals := 42 } : Room) (va_Pc [.ref q1, .int x2, .int x3, .int x4, .int x5, .int x6] (PX g sz [(q1, .inr (12, [w17, w18, w19, w20, w21, w22, w23, w24, w25, w26, w27, w28, w29, w30, w31, w32, w33, w34, w35, w36, w37, w38, w39, w40, w41, w42, w43, w44, w45, w46, w47, w48, w49, w50, w51, w52, w53]))])) (QI g [(q1, .inr (12, [w17, w18, w19, w20, w21, w22, w23, w24, w25, w26, w27, w28, w29, w30, w31, w32, w33, w34, w35, w36, w37, w38, w39, w40, w41, w42, w43, w44, w45, w46, w47, w48, w49, w50, w51, w52, w53]))] sz 0 (fun _ => [(q1, .inr (12, [w17, w18, w19, w20, w21, w22, .int 2, w24, w25, w26, w27, w28, w29, w30, w31, w32, w33, w34, w35, w36, w37, w38, w39, w40, w41, w42, w43, w44, w45, w46, w47, w48, w49, w50, w51, w52, w53]))])) 0 0 (va_A [(q1, .inr (12, [w17, w18, w19, w20, w21, w22, w23, w24, w25, w26, w27, w28, w29, w30, w31, w32, w33, w34, w35, w36, w37, w38, w39, w40, w41, w42, w43, w44, w45, w46, w47, w48, w49, w50, w51, w52, w53]))] sz) := by
  refine ofN (by decide) (Nat.le_of_ble_eq_true rfl) rfl ?_
  intro p e s m args below meth c A ls hAe hsz hx hb hml hr hlocks hin hown hE hP hD hA hS hl
  have hown : s.vm.findClass RX10 = some m.cls := hown
  refine lv_iload_n hx hb dX10_setEnvelope_0 rfl (lv_at hl 2 rfl) ?_
  refine lv_iconst (v := 0) hx hb dX10_setEnvelope_1 (by decide) ?_
  refine lv_sipush (v := 5000) hx hb dX10_setEnvelope_2 (by decide) ?_
  refine g0_i (rS (rest := []) hx hb hml hown hE hP hD (c1843_X10_in l g x3 h7 h8 s.heap.size) (kS_X10_in hE (e1431 hE) rfl rfl ⟨(Nat.le_of_ble_eq_true rfl), (Nat.le_of_ble_eq_true rfl)⟩) [] rfl (by decide) rfl hl.1 rfl (lv_room (Nat.le_of_ble_eq_true rfl)) dX10_setEnvelope_5 ⟨(Nat.le_of_ble_eq_true rfl), (Nat.le_of_ble_eq_true rfl)⟩) hP hD hS hA (fun u9 H locs hP hS => ?_)
  refine lv_if_eq (tgt := 49) hx hb dX10_setEnvelope_8 (by decide) (fun h => absurd h (by decide)) (fun _ => ?_)
  refine lv_iload_n hx hb dX10_setEnvelope_11 rfl (lv_at hl 3 rfl) ?_
  refine lv_iconst (v := 0) hx hb dX10_setEnvelope_12 (by decide) ?_
  refine lv_sipush (v := 5000) hx hb dX10_setEnvelope_13 (by decide) ?_
  refine g0_i (rS (rest := []) hx hb hml hown hE hP hD (c1843_X10_in l g x4 h9 h10 H.size) (kS_X10_in hE (e1431 hE) rfl rfl ⟨(Nat.le_of_ble_eq_true rfl), (Nat.le_of_ble_eq_true rfl)⟩) [] rfl (by decide) rfl hl.1 rfl (lv_room (Nat.le_of_ble_eq_true rfl)) dX10_setEnvelope_16 ⟨(Nat.le_of_ble_eq_true rfl), (Nat.le_of_ble_eq_true rfl)⟩) hP hD hS hA (fun u9 H locs hP hS => ?_)
  refine lv_if_eq (tgt := 49) hx hb dX10_setEnvelope_19 (by decide) (fun h => absurd h (by decide)) (fun _ => ?_)
  refine lv_iload hx hb dX10_setEnvelope_22 (lv_at hl 4 rfl) ?_
  refine lv_iconst (v := 0) hx hb dX10_setEnvelope_24 (by decide) ?_
  refine lv_bipush (v := 100) hx hb dX10_setEnvelope_25 (by decide) ?_
  refine g0_i (rS (rest := []) hx hb hml hown hE hP hD (c1849_X10_in l g x5 h11 h12 H.size) (kS_X10_in hE (e1431 hE) rfl rfl ⟨(Nat.le_of_ble_eq_true rfl), (Nat.le_of_ble_eq_true rfl)⟩) [] rfl (by decide) rfl hl.1 rfl (lv_room (Nat.le_of_ble_eq_true rfl)) dX10_setEnvelope_27 ⟨(Nat.le_of_ble_eq_true rfl), (Nat.le_of_ble_eq_true rfl)⟩) hP hD hS hA (fun u9 H locs hP hS => ?_)
  refine lv_if_eq (tgt := 49) hx hb dX10_setEnvelope_30 (by decide) (fun h => absurd h (by decide)) (fun _ => ?_)
  refine lv_iload hx hb dX10_setEnvelope_33 (lv_at hl 5 rfl) ?_
  refine lv_iconst (v := 0) hx hb dX10_setEnvelope_35 (by decide) ?_
  refine lv_sipush (v := 5000) hx hb dX10_setEnvelope_36 (by decide) ?_
  refine g0_i (rS (rest := []) hx hb hml hown hE hP hD (c1841_X10_in l g x6 h13 h14 H.size) (kS_X10_in hE (e1431 hE) rfl rfl ⟨(Nat.le_of_ble_eq_true rfl), (Nat.le_of_ble_eq_true rfl)⟩) [] rfl (by decide) rfl hl.1 rfl (lv_room (Nat.le_of_ble_eq_true rfl)) dX10_setEnvelope_39 ⟨(Nat.le_of_ble_eq_true rfl), (Nat.le_of_ble_eq_true rfl)⟩) hP hD hS hA (fun u9 H locs hP hS => ?_)
  refine lv_if_eq (tgt := 49) hx hb dX10_setEnvelope_42 (by decide) (fun _ => ?_) (fun h => absurd (by decide) h)
  refine lv_iconst (v := 0) hx hb dX10_setEnvelope_49 (by decide) ?_
  refine lv_istore (lv' := [(6, .int 0), (0, .ref q1), (1, .int x2), (2, .int x3), (3, .int x4), (4, .int x5), (5, .int x6)]) hx hb dX10_setEnvelope_50 hl (by decide) rfl (fun ls hl => ?_)
  refine lv_aload_n hx hb dX10_setEnvelope_52 rfl (lv_at hl 1 rfl) ?_
  refine lv_iload_n hx hb dX10_setEnvelope_53 rfl (lv_at hl 2 rfl) ?_
  refine g0_i (rS (rest := [.ref q1]) hx hb hml hown hE hP hD (c1857_X10_isInstrument l g x2 h15 h16 H.size) (kS_X10_isInstrument hE (e1645 hE) rfl rfl ⟨(Nat.le_of_ble_eq_true rfl), (Nat.le_of_ble_eq_true rfl)⟩) [] rfl (by decide) rfl hl.1 rfl (lv_room (Nat.le_of_ble_eq_true rfl)) dX10_setEnvelope_54 ⟨(Nat.le_of_ble_eq_true rfl), (Nat.le_of_ble_eq_true rfl)⟩) hP hD hS hA (fun u9 H locs hP hS => ?_)
  refine lv_if_ne (tgt := 64) hx hb dX10_setEnvelope_57 (by decide) (fun _ => ?_) (fun h => absurd h (by decide))
  refine lv_iload hx hb dX10_setEnvelope_64 (lv_at hl 0 rfl) ?_
  refine lv_if_ne (tgt := 73) hx hb dX10_setEnvelope_66 (by decide) (fun h => absurd h (by decide)) (fun _ => ?_)
  refine lv_iconst (v := 2) hx hb dX10_setEnvelope_69 (by decide) ?_
  refine lv_goto (tgt := 74) hx hb dX10_setEnvelope_70 (by decide) ?_
  refine pf_RX10_86 (ws' := [(q1, .inr (12, [w17, w18, w19, w20, w21, w22, .int 2, w24, w25, w26, w27, w28, w29, w30, w31, w32, w33, w34, w35, w36, w37, w38, w39, w40, w41, w42, w43, w44, w45, w46, w47, w48, w49, w50, w51, w52, w53]))]) hx hb hown hE hP hD hS 0 rfl rfl rfl (Nat.le_of_ble_eq_true rfl) dX10_setEnvelope_74 rfl (fun H locs hP hD hS => ?_)
  refine lv_aload_n hx hb dX10_setEnvelope_77 rfl (lv_at hl 1 rfl) ?_
  refine gf_RX10_86 hx hb hown hE hP 0 rfl rfl dX10_setEnvelope_78 ?_
  refine lv_if_le (tgt := 86) hx hb dX10_setEnvelope_81 (by decide) (fun h => absurd h (by decide)) (fun _ => ?_)
  refine lv_iconst (v := 0) hx hb dX10_setEnvelope_84 (by decide) ?_
  exact x_zret hx hb hr rfl rfl hlocks hP hD hS hAe hsz (Nat.le_of_ble_eq_true rfl) (Nat.le_of_ble_eq_true rfl) (fun _ => 0) [0] (by decide) rfl dX10_setEnvelope_85

set_option maxHeartbeats 4000000 in
set_option maxRecDepth 100000 in
theorem c2082_X9_requireRange (l : Launch) (g : gG) (hlx : l.stackTraces = false) (x1 : Int32) (h2 : (0 : Int32) ≤ x1) (h3 : (100 : Int32) < x1) (sz : Nat) : vx_Met l yX9_requireRange [Cond.code yX9_requireRange cX9_requireRange 3 none] ({ frames := 6, cells := 1, slots := 6, locals := 100 } : Room) (va_Pc [.int x1, .int 0, .int 100] (PZ g sz [])) NV (XW g [] sz "java/lang/IllegalArgumentException" []) 1 6 (va_A [] sz) := by
  refine ofX (by decide) (Nat.le_of_ble_eq_true rfl) rfl ?_
  intro p e s m args below meth c A ls hAe hsz hx hb hml hr hlocks hin hown hE hP hD hA hS hl hex hz
  have hown : s.vm.findClass RX9 = some m.cls := hown
  refine lv_iload_n hx hb dX9_requireRange_0 rfl (lv_at hl 0 rfl) ?_
  refine lv_iload_n hx hb dX9_requireRange_1 rfl (lv_at hl 1 rfl) ?_
  refine lv_icmp_lt (tgt := 10) hx hb dX9_requireRange_2 (by decide) (fun h => absurd h (i_nlt h2)) (fun _ => ?_)
  refine lv_iload_n hx hb dX9_requireRange_5 rfl (lv_at hl 0 rfl) ?_
  refine lv_iload_n hx hb dX9_requireRange_6 rfl (lv_at hl 2 rfl) ?_
  refine lv_icmp_le (tgt := 21) hx hb dX9_requireRange_7 (by decide) (fun h => absurd h (i_nle h3)) (fun _ => ?_)
  exact x_throwW (text := "a number is out of range") (names := ["java/lang/RuntimeException", "java/lang/Exception"]) hx hb hlx hown hE (by decide) (by decide) (e639 hE) (e20 hE) (by decide +kernel) (th_215 hE) tg_215_211 hz (by rw [hml]; exact hl.1) dX9_requireRange_10 dX9_requireRange_13 dX9_requireRange_14 dX9_requireRange_17 dX9_requireRange_20 hex (Nat.le_of_ble_eq_true rfl) (Nat.le_of_ble_eq_true rfl) (Nat.le_of_ble_eq_true rfl) (Nat.le_of_ble_eq_true rfl) hlocks hP hD hS hAe hsz (Nat.le_of_ble_eq_true rfl) (Nat.le_of_ble_eq_true rfl) [] (by decide) rfl

set_option maxHeartbeats 4000000 in
set_option maxRecDepth 100000 in
theorem c2083_X9_setEnvelope (l : Launch) (g : gG) (hlx : l.stackTraces = false) (q1 : Nat) (x2 x3 x4 x5 x6 : Int32) (h7 : (0 : Int32) ≤ x2) (h8 : x2 < 4) (h9 : (0 : Int32) ≤ x3) (h10 : x3 ≤ 5000) (h11 : (0 : Int32) ≤ x4) (h12 : x4 ≤ 5000) (h13 : (0 : Int32) ≤ x5) (h14 : (100 : Int32) < x5) (sz : Nat) : vx_Met l yX9_setEnvelope [Cond.code yX9_setEnvelope cX9_setEnvelope 7 (some .int)] ({ frames := 7, cells := 1, slots := 6, locals := 122 } : Room) (va_Pc [.ref q1, .int x2, .int x3, .int x4, .int x5, .int x6] (PZ g sz [])) NI (XW g [] sz "java/lang/IllegalArgumentException" []) 1 6 (va_A [] sz) := by
  refine ofX (by decide) (Nat.le_of_ble_eq_true rfl) rfl ?_
  intro p e s m args below meth c A ls hAe hsz hx hb hml hr hlocks hin hown hE hP hD hA hS hl hex hz
  have hown : s.vm.findClass RX9 = some m.cls := hown
  refine lv_iload_n hx hb dX9_setEnvelope_0 rfl (lv_at hl 1 rfl) ?_
  refine g0_v (rS (rest := []) hx hb hml hown hE hP hD (c1854_X9_requireInstrument l g x2 h7 h8 s.heap.size) (kS_X9_requireInstrument hE (e991 hE) rfl rfl ⟨(Nat.le_of_ble_eq_true rfl), (Nat.le_of_ble_eq_true rfl)⟩) [] rfl (by decide) rfl hl.1 rfl (lv_room (Nat.le_of_ble_eq_true rfl)) dX9_setEnvelope_1 ⟨(Nat.le_of_ble_eq_true rfl), (Nat.le_of_ble_eq_true rfl)⟩) hP hD hS hA (fun u9 H locs hP hS => ?_)
  refine lv_iload_n hx hb dX9_setEnvelope_4 rfl (lv_at hl 2 rfl) ?_
  refine lv_iconst (v := 0) hx hb dX9_setEnvelope_5 (by decide) ?_
  refine lv_sipush (v := 5000) hx hb dX9_setEnvelope_6 (by decide) ?_
  refine g0_v (rS (rest := []) hx hb hml hown hE hP hD (c1859_X9_requireRange l g x3 h9 h10 H.size) (kS_X9_requireRange hE (e636 hE) rfl rfl ⟨(Nat.le_of_ble_eq_true rfl), (Nat.le_of_ble_eq_true rfl)⟩) [] rfl (by decide) rfl hl.1 rfl (lv_room (Nat.le_of_ble_eq_true rfl)) dX9_setEnvelope_9 ⟨(Nat.le_of_ble_eq_true rfl), (Nat.le_of_ble_eq_true rfl)⟩) hP hD hS hA (fun u9 H locs hP hS => ?_)
  refine lv_iload_n hx hb dX9_setEnvelope_12 rfl (lv_at hl 3 rfl) ?_
  refine lv_iconst (v := 0) hx hb dX9_setEnvelope_13 (by decide) ?_
  refine lv_sipush (v := 5000) hx hb dX9_setEnvelope_14 (by decide) ?_
  refine g0_v (rS (rest := []) hx hb hml hown hE hP hD (c1859_X9_requireRange l g x4 h11 h12 H.size) (kS_X9_requireRange hE (e636 hE) rfl rfl ⟨(Nat.le_of_ble_eq_true rfl), (Nat.le_of_ble_eq_true rfl)⟩) [] rfl (by decide) rfl hl.1 rfl (lv_room (Nat.le_of_ble_eq_true rfl)) dX9_setEnvelope_17 ⟨(Nat.le_of_ble_eq_true rfl), (Nat.le_of_ble_eq_true rfl)⟩) hP hD hS hA (fun u9 H locs hP hS => ?_)
  refine lv_iload hx hb dX9_setEnvelope_20 (lv_at hl 4 rfl) ?_
  refine lv_iconst (v := 0) hx hb dX9_setEnvelope_22 (by decide) ?_
  refine lv_bipush (v := 100) hx hb dX9_setEnvelope_23 (by decide) ?_
  refine gx_v (wr := []) (rSx (rest := []) hx hb hml hown hE hP hD hS hA hz (c2082_X9_requireRange l g hlx x5 h13 h14 H.size) (kS_X9_requireRange hE (e636 hE) rfl rfl ⟨(Nat.le_of_ble_eq_true rfl), (Nat.le_of_ble_eq_true rfl)⟩) [] rfl (by decide) rfl hl.1 rfl (lv_room (Nat.le_of_ble_eq_true rfl)) dX9_setEnvelope_25 ⟨(Nat.le_of_ble_eq_true rfl), (Nat.le_of_ble_eq_true rfl)⟩) hP hD hS hA [] [] rfl rfl (by decide) (by decide) (fun ce9 q9 H locs hP hD hS hq1 hq2 hq3 => ?_)
  exact x_out hex hlocks hq1 hq2 hq3 hP hD hS hAe hsz (Nat.le_of_ble_eq_true rfl) (Nat.le_of_ble_eq_true rfl) [] (by decide) rfl

set_option maxHeartbeats 4000000 in
set_option maxRecDepth 100000 in
theorem c2084_L_setEnvelope (l : Launch) (g : gG) (hlx : l.stackTraces = false) (q1 q7 : Nat) (x2 x3 x4 x5 x6 : Int32) (w16 w17 w18 w19 w20 w21 w22 w23 w24 w25 w26 : Value) (h8 : (0 : Int32) ≤ x2) (h9 : x2 < 4) (h10 : (0 : Int32) ≤ x3) (h11 : x3 ≤ 5000) (h12 : (0 : Int32) ≤ x4) (h13 : x4 ≤ 5000) (h14 : (0 : Int32) ≤ x5) (h15 : (100 : Int32) < x5) (sz : Nat) : Met l yL_setEnvelope [Cond.codeWith yL_setEnvelope cL_setEnvelope 8 (some .int) [(0, 16, 19, 13), (0, 16, 23, 15)]] ({ frames := 8, cells := 1, slots := 6, locals := 148 } : Room) (va_Pc [.ref q1, .int x2, .int x3, .int x4, .int x5, .int x6, .ref q7] (PZ g sz [(q1, .inr (11, [w16, w17, w18, w19, w20, w21, w22, w23, w24, w25, w26]))])) (QI g [(q1, .inr (11, [w16, w17, w18, w19, w20, w21, w22, w23, w24, w25, w26]))] sz 2 (fun _ => [])) 1 6 (va_A [(q1, .inr (11, [w16, w17, w18, w19, w20, w21, w22, w23, w24, w25, w26]))] sz) := by
  refine ofH (by decide) (Nat.le_of_ble_eq_true rfl) rfl ?_
  intro p e s m args below meth c A ls hAe hsz hx hb hml hr hlocks hin hown hE hP hD hA hS hl htb hz
  have hown : s.vm.findClass RL = some m.cls := hown
  refine lv_aload hx hb dL_setEnvelope_0 (lv_at hl 6 rfl) ?_
  refine lv_iconst (v := 0) hx hb dL_setEnvelope_2 (by decide) ?_
  refine lv_aload_n hx hb dL_setEnvelope_3 rfl (lv_at hl 0 rfl) ?_
  refine lv_iload_n hx hb dL_setEnvelope_4 rfl (lv_at hl 1 rfl) ?_
  refine lv_iload_n hx hb dL_setEnvelope_5 rfl (lv_at hl 2 rfl) ?_
  refine lv_iload_n hx hb dL_setEnvelope_6 rfl (lv_at hl 3 rfl) ?_
  refine lv_iload hx hb dL_setEnvelope_7 (lv_at hl 4 rfl) ?_
  refine lv_iload hx hb dL_setEnvelope_9 (lv_at hl 5 rfl) ?_
  refine gx_i (wr := [(q1, .inr (11, [w16, w17, w18, w19, w20, w21, w22, w23, w24, w25, w26]))]) (rVx (rest := [.int 0, .ref q7]) hx hb hml hown hE hP hD hS hA hz 0 rfl rfl (c2083_X9_setEnvelope l g hlx q1 x2 x3 x4 x5 x6 h8 h9 h10 h11 h12 h13 h14 h15 s.heap.size) (kV_X9_setEnvelope hE (e987 hE) rfl rfl ⟨(Nat.le_of_ble_eq_true rfl), (Nat.le_of_ble_eq_true rfl)⟩) [] rfl (by decide) rfl hl.1 rfl (lv_room (Nat.le_of_ble_eq_true rfl)) dL_setEnvelope_11 ⟨(Nat.le_of_ble_eq_true rfl), (Nat.le_of_ble_eq_true rfl)⟩) hP hD hS hA [] [0] rfl rfl (by decide) (by decide) (fun ce9 q9 H locs hP hD hS hq1 hq2 hq3 => ?_)
  have hP : va_P g.1 vwCl [(q1, .inr (11, [w16, w17, w18, w19, w20, w21, w22, w23, w24, w25, w26]))] H := hP
  have hD : va_D A [(q1, .inr (11, [w16, w17, w18, w19, w20, w21, w22, w23, w24, w25, w26]))] := hD
  refine x_catch (name := "java/lang/IllegalArgumentException") (hh := [(0, 16, 19, 13), (0, 16, 23, 15)]) (tgt := 23) hown htb [⟨0, 16, 19, 13⟩] ⟨0, 16, 23, 15⟩ [] rfl (fun z hz => by
    rcases List.mem_cons.mp hz with rfl | hz
    · exact Or.inr ⟨by decide, "java/lang/IndexOutOfBoundsException", e532 hE, hE.2.2.2.2.2 ("java/lang/IllegalArgumentException", "java/lang/IndexOutOfBoundsException") (by decide +kernel)⟩
    exact nomatch hz) rfl (by decide) (e611 hE) (e641 hE) hq1 hq2 hq3 rfl ?_
  refine lv_astore (lv' := [(7, .ref q9), (0, .ref q1), (1, .int x2), (2, .int x3), (3, .int x4), (4, .int x5), (5, .int x6), (6, .ref q7)]) hx hb dL_setEnvelope_23 hl (by decide) rfl (fun ls hl => ?_)
  refine lv_iconst (v := 2) hx hb dL_setEnvelope_25 (by decide) ?_
  exact x_zret hx hb hr rfl rfl hlocks hP hD hS hAe hsz (Nat.le_of_ble_eq_true rfl) (Nat.le_of_ble_eq_true rfl) (fun _ => 0) [] (by decide) rfl dL_setEnvelope_26

set_option maxHeartbeats 4000000 in
set_option maxRecDepth 100000 in
theorem c2085_X10_setEnvelope (l : Launch) (g : gG) (q1 : Nat) (x2 x3 x4 x5 x6 : Int32) (w15 w16 w17 w18 w19 w20 w21 w22 w23 w24 w25 w26 w27 w28 w29 w30 w31 w32 w33 w34 w35 w36 w37 w38 w39 w40 w41 w42 w43 w44 w45 w46 w47 w48 w49 w50 w51 : Value) (h7 : (0 : Int32) ≤ x3) (h8 : x3 ≤ 5000) (h9 : (0 : Int32) ≤ x4) (h10 : x4 ≤ 5000) (h11 : (0 : Int32) ≤ x5) (h12 : (100 : Int32) < x5) (h13 : (0 : Int32) ≤ x2) (h14 : x2 ≤ 3) (sz : Nat) : Met l yX10_setEnvelope [Cond.code yX10_setEnvelope cX10_setEnvelope 12 (some .int)] ({ frames := 2, cells := 0, slots := 0, locals := 42 } : Room) (va_Pc [.ref q1, .int x2, .int x3, .int x4, .int x5, .int x6] (PX g sz [(q1, .inr (12, [w15, w16, w17, w18, w19, w20, w21, w22, w23, w24, w25, w26, w27, w28, w29, w30, w31, w32, w33, w34, w35, w36, w37, w38, w39, w40, w41, w42, w43, w44, w45, w46, w47, w48, w49, w50, w51]))])) (QI g [(q1, .inr (12, [w15, w16, w17, w18, w19, w20, w21, w22, w23, w24, w25, w26, w27, w28, w29, w30, w31, w32, w33, w34, w35, w36, w37, w38, w39, w40, w41, w42, w43, w44, w45, w46, w47, w48, w49, w50, w51]))] sz 0 (fun _ => [(q1, .inr (12, [w15, w16, w17, w18, w19, w20, .int 2, w22, w23, w24, w25, w26, w27, w28, w29, w30, w31, w32, w33, w34, w35, w36, w37, w38, w39, w40, w41, w42, w43, w44, w45, w46, w47, w48, w49, w50, w51]))])) 0 0 (va_A [(q1, .inr (12, [w15, w16, w17, w18, w19, w20, w21, w22, w23, w24, w25, w26, w27, w28, w29, w30, w31, w32, w33, w34, w35, w36, w37, w38, w39, w40, w41, w42, w43, w44, w45, w46, w47, w48, w49, w50, w51]))] sz) := by
  refine ofN (by decide) (Nat.le_of_ble_eq_true rfl) rfl ?_
  intro p e s m args below meth c A ls hAe hsz hx hb hml hr hlocks hin hown hE hP hD hA hS hl
  have hown : s.vm.findClass RX10 = some m.cls := hown
  refine lv_iload_n hx hb dX10_setEnvelope_0 rfl (lv_at hl 2 rfl) ?_
  refine lv_iconst (v := 0) hx hb dX10_setEnvelope_1 (by decide) ?_
  refine lv_sipush (v := 5000) hx hb dX10_setEnvelope_2 (by decide) ?_
  refine g0_i (rS (rest := []) hx hb hml hown hE hP hD (c1843_X10_in l g x3 h7 h8 s.heap.size) (kS_X10_in hE (e1431 hE) rfl rfl ⟨(Nat.le_of_ble_eq_true rfl), (Nat.le_of_ble_eq_true rfl)⟩) [] rfl (by decide) rfl hl.1 rfl (lv_room (Nat.le_of_ble_eq_true rfl)) dX10_setEnvelope_5 ⟨(Nat.le_of_ble_eq_true rfl), (Nat.le_of_ble_eq_true rfl)⟩) hP hD hS hA (fun u9 H locs hP hS => ?_)
  refine lv_if_eq (tgt := 49) hx hb dX10_setEnvelope_8 (by decide) (fun h => absurd h (by decide)) (fun _ => ?_)
  refine lv_iload_n hx hb dX10_setEnvelope_11 rfl (lv_at hl 3 rfl) ?_
  refine lv_iconst (v := 0) hx hb dX10_setEnvelope_12 (by decide) ?_
  refine lv_sipush (v := 5000) hx hb dX10_setEnvelope_13 (by decide) ?_
  refine g0_i (rS (rest := []) hx hb hml hown hE hP hD (c1843_X10_in l g x4 h9 h10 H.size) (kS_X10_in hE (e1431 hE) rfl rfl ⟨(Nat.le_of_ble_eq_true rfl), (Nat.le_of_ble_eq_true rfl)⟩) [] rfl (by decide) rfl hl.1 rfl (lv_room (Nat.le_of_ble_eq_true rfl)) dX10_setEnvelope_16 ⟨(Nat.le_of_ble_eq_true rfl), (Nat.le_of_ble_eq_true rfl)⟩) hP hD hS hA (fun u9 H locs hP hS => ?_)
  refine lv_if_eq (tgt := 49) hx hb dX10_setEnvelope_19 (by decide) (fun h => absurd h (by decide)) (fun _ => ?_)
  refine lv_iload hx hb dX10_setEnvelope_22 (lv_at hl 4 rfl) ?_
  refine lv_iconst (v := 0) hx hb dX10_setEnvelope_24 (by decide) ?_
  refine lv_bipush (v := 100) hx hb dX10_setEnvelope_25 (by decide) ?_
  refine g0_i (rS (rest := []) hx hb hml hown hE hP hD (c1847_X10_in l g x5 h11 h12 H.size) (kS_X10_in hE (e1431 hE) rfl rfl ⟨(Nat.le_of_ble_eq_true rfl), (Nat.le_of_ble_eq_true rfl)⟩) [] rfl (by decide) rfl hl.1 rfl (lv_room (Nat.le_of_ble_eq_true rfl)) dX10_setEnvelope_27 ⟨(Nat.le_of_ble_eq_true rfl), (Nat.le_of_ble_eq_true rfl)⟩) hP hD hS hA (fun u9 H locs hP hS => ?_)
  refine lv_if_eq (tgt := 49) hx hb dX10_setEnvelope_30 (by decide) (fun _ => ?_) (fun h => absurd (by decide) h)
  refine lv_iconst (v := 0) hx hb dX10_setEnvelope_49 (by decide) ?_
  refine lv_istore (lv' := [(6, .int 0), (0, .ref q1), (1, .int x2), (2, .int x3), (3, .int x4), (4, .int x5), (5, .int x6)]) hx hb dX10_setEnvelope_50 hl (by decide) rfl (fun ls hl => ?_)
  refine lv_aload_n hx hb dX10_setEnvelope_52 rfl (lv_at hl 1 rfl) ?_
  refine lv_iload_n hx hb dX10_setEnvelope_53 rfl (lv_at hl 2 rfl) ?_
  refine g0_i (rS (rest := [.ref q1]) hx hb hml hown hE hP hD (c1857_X10_isInstrument l g x2 h13 h14 H.size) (kS_X10_isInstrument hE (e1645 hE) rfl rfl ⟨(Nat.le_of_ble_eq_true rfl), (Nat.le_of_ble_eq_true rfl)⟩) [] rfl (by decide) rfl hl.1 rfl (lv_room (Nat.le_of_ble_eq_true rfl)) dX10_setEnvelope_54 ⟨(Nat.le_of_ble_eq_true rfl), (Nat.le_of_ble_eq_true rfl)⟩) hP hD hS hA (fun u9 H locs hP hS => ?_)
  refine lv_if_ne (tgt := 64) hx hb dX10_setEnvelope_57 (by decide) (fun _ => ?_) (fun h => absurd h (by decide))
  refine lv_iload hx hb dX10_setEnvelope_64 (lv_at hl 0 rfl) ?_
  refine lv_if_ne (tgt := 73) hx hb dX10_setEnvelope_66 (by decide) (fun h => absurd h (by decide)) (fun _ => ?_)
  refine lv_iconst (v := 2) hx hb dX10_setEnvelope_69 (by decide) ?_
  refine lv_goto (tgt := 74) hx hb dX10_setEnvelope_70 (by decide) ?_
  refine pf_RX10_86 (ws' := [(q1, .inr (12, [w15, w16, w17, w18, w19, w20, .int 2, w22, w23, w24, w25, w26, w27, w28, w29, w30, w31, w32, w33, w34, w35, w36, w37, w38, w39, w40, w41, w42, w43, w44, w45, w46, w47, w48, w49, w50, w51]))]) hx hb hown hE hP hD hS 0 rfl rfl rfl (Nat.le_of_ble_eq_true rfl) dX10_setEnvelope_74 rfl (fun H locs hP hD hS => ?_)
  refine lv_aload_n hx hb dX10_setEnvelope_77 rfl (lv_at hl 1 rfl) ?_
  refine gf_RX10_86 hx hb hown hE hP 0 rfl rfl dX10_setEnvelope_78 ?_
  refine lv_if_le (tgt := 86) hx hb dX10_setEnvelope_81 (by decide) (fun h => absurd h (by decide)) (fun _ => ?_)
  refine lv_iconst (v := 0) hx hb dX10_setEnvelope_84 (by decide) ?_
  exact x_zret hx hb hr rfl rfl hlocks hP hD hS hAe hsz (Nat.le_of_ble_eq_true rfl) (Nat.le_of_ble_eq_true rfl) (fun _ => 0) [0] (by decide) rfl dX10_setEnvelope_85

set_option maxHeartbeats 4000000 in
set_option maxRecDepth 100000 in
theorem c2086_X9_setEnvelope (l : Launch) (g : gG) (hlx : l.stackTraces = false) (q1 : Nat) (x2 x3 x4 x5 x6 : Int32) (h7 : (0 : Int32) ≤ x2) (h8 : x2 < 4) (h9 : (0 : Int32) ≤ x3) (h10 : x3 ≤ 5000) (h11 : (0 : Int32) ≤ x4) (h12 : (5000 : Int32) < x4) (sz : Nat) : vx_Met l yX9_setEnvelope [Cond.code yX9_setEnvelope cX9_setEnvelope 7 (some .int)] ({ frames := 7, cells := 1, slots := 6, locals := 122 } : Room) (va_Pc [.ref q1, .int x2, .int x3, .int x4, .int x5, .int x6] (PZ g sz [])) NI (XW g [] sz "java/lang/IllegalArgumentException" []) 1 6 (va_A [] sz) := by
  refine ofX (by decide) (Nat.le_of_ble_eq_true rfl) rfl ?_
  intro p e s m args below meth c A ls hAe hsz hx hb hml hr hlocks hin hown hE hP hD hA hS hl hex hz
  have hown : s.vm.findClass RX9 = some m.cls := hown
  refine lv_iload_n hx hb dX9_setEnvelope_0 rfl (lv_at hl 1 rfl) ?_
  refine g0_v (rS (rest := []) hx hb hml hown hE hP hD (c1854_X9_requireInstrument l g x2 h7 h8 s.heap.size) (kS_X9_requireInstrument hE (e991 hE) rfl rfl ⟨(Nat.le_of_ble_eq_true rfl), (Nat.le_of_ble_eq_true rfl)⟩) [] rfl (by decide) rfl hl.1 rfl (lv_room (Nat.le_of_ble_eq_true rfl)) dX9_setEnvelope_1 ⟨(Nat.le_of_ble_eq_true rfl), (Nat.le_of_ble_eq_true rfl)⟩) hP hD hS hA (fun u9 H locs hP hS => ?_)
  refine lv_iload_n hx hb dX9_setEnvelope_4 rfl (lv_at hl 2 rfl) ?_
  refine lv_iconst (v := 0) hx hb dX9_setEnvelope_5 (by decide) ?_
  refine lv_sipush (v := 5000) hx hb dX9_setEnvelope_6 (by decide) ?_
  refine g0_v (rS (rest := []) hx hb hml hown hE hP hD (c1859_X9_requireRange l g x3 h9 h10 H.size) (kS_X9_requireRange hE (e636 hE) rfl rfl ⟨(Nat.le_of_ble_eq_true rfl), (Nat.le_of_ble_eq_true rfl)⟩) [] rfl (by decide) rfl hl.1 rfl (lv_room (Nat.le_of_ble_eq_true rfl)) dX9_setEnvelope_9 ⟨(Nat.le_of_ble_eq_true rfl), (Nat.le_of_ble_eq_true rfl)⟩) hP hD hS hA (fun u9 H locs hP hS => ?_)
  refine lv_iload_n hx hb dX9_setEnvelope_12 rfl (lv_at hl 3 rfl) ?_
  refine lv_iconst (v := 0) hx hb dX9_setEnvelope_13 (by decide) ?_
  refine lv_sipush (v := 5000) hx hb dX9_setEnvelope_14 (by decide) ?_
  refine gx_v (wr := []) (rSx (rest := []) hx hb hml hown hE hP hD hS hA hz (c2078_X9_requireRange l g hlx x4 h11 h12 H.size) (kS_X9_requireRange hE (e636 hE) rfl rfl ⟨(Nat.le_of_ble_eq_true rfl), (Nat.le_of_ble_eq_true rfl)⟩) [] rfl (by decide) rfl hl.1 rfl (lv_room (Nat.le_of_ble_eq_true rfl)) dX9_setEnvelope_17 ⟨(Nat.le_of_ble_eq_true rfl), (Nat.le_of_ble_eq_true rfl)⟩) hP hD hS hA [] [] rfl rfl (by decide) (by decide) (fun ce9 q9 H locs hP hD hS hq1 hq2 hq3 => ?_)
  exact x_out hex hlocks hq1 hq2 hq3 hP hD hS hAe hsz (Nat.le_of_ble_eq_true rfl) (Nat.le_of_ble_eq_true rfl) [] (by decide) rfl

set_option maxHeartbeats 4000000 in
set_option maxRecDepth 100000 in
theorem c2087_L_setEnvelope (l : Launch) (g : gG) (hlx : l.stackTraces = false) (q1 q7 : Nat) (x2 x3 x4 x5 x6 : Int32) (w14 w15 w16 w17 w18 w19 w20 w21 w22 w23 w24 : Value) (h8 : (0 : Int32) ≤ x2) (h9 : x2 < 4) (h10 : (0 : Int32) ≤ x3) (h11 : x3 ≤ 5000) (h12 : (0 : Int32) ≤ x4) (h13 : (5000 : Int32) < x4) (sz : Nat) : Met l yL_setEnvelope [Cond.codeWith yL_setEnvelope cL_setEnvelope 8 (some .int) [(0, 16, 19, 13), (0, 16, 23, 15)]] ({ frames := 8, cells := 1, slots := 6, locals := 148 } : Room) (va_Pc [.ref q1, .int x2, .int x3, .int x4, .int x5, .int x6, .ref q7] (PZ g sz [(q1, .inr (11, [w14, w15, w16, w17, w18, w19, w20, w21, w22, w23, w24]))])) (QI g [(q1, .inr (11, [w14, w15, w16, w17, w18, w19, w20, w21, w22, w23, w24]))] sz 2 (fun _ => [])) 1 6 (va_A [(q1, .inr (11, [w14, w15, w16, w17, w18, w19, w20, w21, w22, w23, w24]))] sz) := by
  refine ofH (by decide) (Nat.le_of_ble_eq_true rfl) rfl ?_
  intro p e s m args below meth c A ls hAe hsz hx hb hml hr hlocks hin hown hE hP hD hA hS hl htb hz
  have hown : s.vm.findClass RL = some m.cls := hown
  refine lv_aload hx hb dL_setEnvelope_0 (lv_at hl 6 rfl) ?_
  refine lv_iconst (v := 0) hx hb dL_setEnvelope_2 (by decide) ?_
  refine lv_aload_n hx hb dL_setEnvelope_3 rfl (lv_at hl 0 rfl) ?_
  refine lv_iload_n hx hb dL_setEnvelope_4 rfl (lv_at hl 1 rfl) ?_
  refine lv_iload_n hx hb dL_setEnvelope_5 rfl (lv_at hl 2 rfl) ?_
  refine lv_iload_n hx hb dL_setEnvelope_6 rfl (lv_at hl 3 rfl) ?_
  refine lv_iload hx hb dL_setEnvelope_7 (lv_at hl 4 rfl) ?_
  refine lv_iload hx hb dL_setEnvelope_9 (lv_at hl 5 rfl) ?_
  refine gx_i (wr := [(q1, .inr (11, [w14, w15, w16, w17, w18, w19, w20, w21, w22, w23, w24]))]) (rVx (rest := [.int 0, .ref q7]) hx hb hml hown hE hP hD hS hA hz 0 rfl rfl (c2086_X9_setEnvelope l g hlx q1 x2 x3 x4 x5 x6 h8 h9 h10 h11 h12 h13 s.heap.size) (kV_X9_setEnvelope hE (e987 hE) rfl rfl ⟨(Nat.le_of_ble_eq_true rfl), (Nat.le_of_ble_eq_true rfl)⟩) [] rfl (by decide) rfl hl.1 rfl (lv_room (Nat.le_of_ble_eq_true rfl)) dL_setEnvelope_11 ⟨(Nat.le_of_ble_eq_true rfl), (Nat.le_of_ble_eq_true rfl)⟩) hP hD hS hA [] [0] rfl rfl (by decide) (by decide) (fun ce9 q9 H locs hP hD hS hq1 hq2 hq3 => ?_)
  have hP : va_P g.1 vwCl [(q1, .inr (11, [w14, w15, w16, w17, w18, w19, w20, w21, w22, w23, w24]))] H := hP
  have hD : va_D A [(q1, .inr (11, [w14, w15, w16, w17, w18, w19, w20, w21, w22, w23, w24]))] := hD
  refine x_catch (name := "java/lang/IllegalArgumentException") (hh := [(0, 16, 19, 13), (0, 16, 23, 15)]) (tgt := 23) hown htb [⟨0, 16, 19, 13⟩] ⟨0, 16, 23, 15⟩ [] rfl (fun z hz => by
    rcases List.mem_cons.mp hz with rfl | hz
    · exact Or.inr ⟨by decide, "java/lang/IndexOutOfBoundsException", e532 hE, hE.2.2.2.2.2 ("java/lang/IllegalArgumentException", "java/lang/IndexOutOfBoundsException") (by decide +kernel)⟩
    exact nomatch hz) rfl (by decide) (e611 hE) (e641 hE) hq1 hq2 hq3 rfl ?_
  refine lv_astore (lv' := [(7, .ref q9), (0, .ref q1), (1, .int x2), (2, .int x3), (3, .int x4), (4, .int x5), (5, .int x6), (6, .ref q7)]) hx hb dL_setEnvelope_23 hl (by decide) rfl (fun ls hl => ?_)
  refine lv_iconst (v := 2) hx hb dL_setEnvelope_25 (by decide) ?_
  exact x_zret hx hb hr rfl rfl hlocks hP hD hS hAe hsz (Nat.le_of_ble_eq_true rfl) (Nat.le_of_ble_eq_true rfl) (fun _ => 0) [] (by decide) rfl dL_setEnvelope_26

set_option maxHeartbeats 4000000 in
set_option maxRecDepth 100000 in
theorem c2088_X10_setEnvelope (l : Launch) (g : gG) (q1 : Nat) (x2 x3 x4 x5 x6 : Int32) (w13 w14 w15 w16 w17 w18 w19 w20 w21 w22 w23 w24 w25 w26 w27 w28 w29 w30 w31 w32 w33 w34 w35 w36 w37 w38 w39 w40 w41 w42 w43 w44 w45 w46 w47 w48 w49 : Value) (h7 : (0 : Int32) ≤ x3) (h8 : x3 ≤ 5000) (h9 : (0 : Int32) ≤ x4) (h10 : (5000 : Int32) < x4) (h11 : (0 : Int32) ≤ x2) (h12 : x2 ≤ 3) (sz : Nat) : Met l yX10_setEnvelope [Cond.code yX10_setEnvelope cX10_setEnvelope 12 (some .int)] ({ frames := 2, cells := 0, slots := 0, locals := 42 } : Room) (va_Pc [.ref q1, .int x2, .int x3, .int x4, .int x5, .int x6] (PX g sz [(q1, .inr (12, [w13, w14, w15, w16, w17, w18, w19, w20, w21, w22, w23, w24, w25, w26, w27, w28, w29, w30, w31, w32, w33, w34, w35, w36, w37, w38, w39, w40, w41, w42, w43, w44, w45, w46, w47, w48, w49]))])) (QI g [(q1, .inr (12, [w13, w14, w15, w16, w17, w18, w19, w20, w21, w22, w23, w24, w25, w26, w27, w28, w29, w30, w31, w32, w33, w34, w35, w36, w37, w38, w39, w40, w41, w42, w43, w44, w45, w46, w47, w48, w49]))] sz 0 (fun _ => [(q1, .inr (12, [w13, w14, w15, w16, w17, w18, .int 2, w20, w21, w22, w23, w24, w25, w26, w27, w28, w29, w30, w31, w32, w33, w34, w35, w36, w37, w38, w39, w40, w41, w42, w43, w44, w45, w46, w47, w48, w49]))])) 0 0 (va_A [(q1, .inr (12, [w13, w14, w15, w16, w17, w18, w19, w20, w21, w22, w23, w24, w25, w26, w27, w28, w29, w30, w31, w32, w33, w34, w35, w36, w37, w38, w39, w40, w41, w42, w43, w44, w45, w46, w47, w48, w49]))] sz) := by
  refine ofN (by decide) (Nat.le_of_ble_eq_true rfl) rfl ?_
  intro p e s m args below meth c A ls hAe hsz hx hb hml hr hlocks hin hown hE hP hD hA hS hl
  have hown : s.vm.findClass RX10 = some m.cls := hown
  refine lv_iload_n hx hb dX10_setEnvelope_0 rfl (lv_at hl 2 rfl) ?_
  refine lv_iconst (v := 0) hx hb dX10_setEnvelope_1 (by decide) ?_
  refine lv_sipush (v := 5000) hx hb dX10_setEnvelope_2 (by decide) ?_
  refine g0_i (rS (rest := []) hx hb hml hown hE hP hD (c1843_X10_in l g x3 h7 h8 s.heap.size) (kS_X10_in hE (e1431 hE) rfl rfl ⟨(Nat.le_of_ble_eq_true rfl), (Nat.le_of_ble_eq_true rfl)⟩) [] rfl (by decide) rfl hl.1 rfl (lv_room (Nat.le_of_ble_eq_true rfl)) dX10_setEnvelope_5 ⟨(Nat.le_of_ble_eq_true rfl), (Nat.le_of_ble_eq_true rfl)⟩) hP hD hS hA (fun u9 H locs hP hS => ?_)
  refine lv_if_eq (tgt := 49) hx hb dX10_setEnvelope_8 (by decide) (fun h => absurd h (by decide)) (fun _ => ?_)
  refine lv_iload_n hx hb dX10_setEnvelope_11 rfl (lv_at hl 3 rfl) ?_
  refine lv_iconst (v := 0) hx hb dX10_setEnvelope_12 (by decide) ?_
  refine lv_sipush (v := 5000) hx hb dX10_setEnvelope_13 (by decide) ?_
  refine g0_i (rS (rest := []) hx hb hml hown hE hP hD (c1841_X10_in l g x4 h9 h10 H.size) (kS_X10_in hE (e1431 hE) rfl rfl ⟨(Nat.le_of_ble_eq_true rfl), (Nat.le_of_ble_eq_true rfl)⟩) [] rfl (by decide) rfl hl.1 rfl (lv_room (Nat.le_of_ble_eq_true rfl)) dX10_setEnvelope_16 ⟨(Nat.le_of_ble_eq_true rfl), (Nat.le_of_ble_eq_true rfl)⟩) hP hD hS hA (fun u9 H locs hP hS => ?_)
  refine lv_if_eq (tgt := 49) hx hb dX10_setEnvelope_19 (by decide) (fun _ => ?_) (fun h => absurd (by decide) h)
  refine lv_iconst (v := 0) hx hb dX10_setEnvelope_49 (by decide) ?_
  refine lv_istore (lv' := [(6, .int 0), (0, .ref q1), (1, .int x2), (2, .int x3), (3, .int x4), (4, .int x5), (5, .int x6)]) hx hb dX10_setEnvelope_50 hl (by decide) rfl (fun ls hl => ?_)
  refine lv_aload_n hx hb dX10_setEnvelope_52 rfl (lv_at hl 1 rfl) ?_
  refine lv_iload_n hx hb dX10_setEnvelope_53 rfl (lv_at hl 2 rfl) ?_
  refine g0_i (rS (rest := [.ref q1]) hx hb hml hown hE hP hD (c1857_X10_isInstrument l g x2 h11 h12 H.size) (kS_X10_isInstrument hE (e1645 hE) rfl rfl ⟨(Nat.le_of_ble_eq_true rfl), (Nat.le_of_ble_eq_true rfl)⟩) [] rfl (by decide) rfl hl.1 rfl (lv_room (Nat.le_of_ble_eq_true rfl)) dX10_setEnvelope_54 ⟨(Nat.le_of_ble_eq_true rfl), (Nat.le_of_ble_eq_true rfl)⟩) hP hD hS hA (fun u9 H locs hP hS => ?_)
  refine lv_if_ne (tgt := 64) hx hb dX10_setEnvelope_57 (by decide) (fun _ => ?_) (fun h => absurd h (by decide))
  refine lv_iload hx hb dX10_setEnvelope_64 (lv_at hl 0 rfl) ?_
  refine lv_if_ne (tgt := 73) hx hb dX10_setEnvelope_66 (by decide) (fun h => absurd h (by decide)) (fun _ => ?_)
  refine lv_iconst (v := 2) hx hb dX10_setEnvelope_69 (by decide) ?_
  refine lv_goto (tgt := 74) hx hb dX10_setEnvelope_70 (by decide) ?_
  refine pf_RX10_86 (ws' := [(q1, .inr (12, [w13, w14, w15, w16, w17, w18, .int 2, w20, w21, w22, w23, w24, w25, w26, w27, w28, w29, w30, w31, w32, w33, w34, w35, w36, w37, w38, w39, w40, w41, w42, w43, w44, w45, w46, w47, w48, w49]))]) hx hb hown hE hP hD hS 0 rfl rfl rfl (Nat.le_of_ble_eq_true rfl) dX10_setEnvelope_74 rfl (fun H locs hP hD hS => ?_)
  refine lv_aload_n hx hb dX10_setEnvelope_77 rfl (lv_at hl 1 rfl) ?_
  refine gf_RX10_86 hx hb hown hE hP 0 rfl rfl dX10_setEnvelope_78 ?_
  refine lv_if_le (tgt := 86) hx hb dX10_setEnvelope_81 (by decide) (fun h => absurd h (by decide)) (fun _ => ?_)
  refine lv_iconst (v := 0) hx hb dX10_setEnvelope_84 (by decide) ?_
  exact x_zret hx hb hr rfl rfl hlocks hP hD hS hAe hsz (Nat.le_of_ble_eq_true rfl) (Nat.le_of_ble_eq_true rfl) (fun _ => 0) [0] (by decide) rfl dX10_setEnvelope_85

set_option maxHeartbeats 4000000 in
set_option maxRecDepth 100000 in
theorem c2089_X9_setEnvelope (l : Launch) (g : gG) (hlx : l.stackTraces = false) (q1 : Nat) (x2 x3 x4 x5 x6 : Int32) (h7 : (0 : Int32) ≤ x2) (h8 : x2 < 4) (h9 : (0 : Int32) ≤ x3) (h10 : (5000 : Int32) < x3) (sz : Nat) : vx_Met l yX9_setEnvelope [Cond.code yX9_setEnvelope cX9_setEnvelope 7 (some .int)] ({ frames := 7, cells := 1, slots := 6, locals := 122 } : Room) (va_Pc [.ref q1, .int x2, .int x3, .int x4, .int x5, .int x6] (PZ g sz [])) NI (XW g [] sz "java/lang/IllegalArgumentException" []) 1 6 (va_A [] sz) := by
  refine ofX (by decide) (Nat.le_of_ble_eq_true rfl) rfl ?_
  intro p e s m args below meth c A ls hAe hsz hx hb hml hr hlocks hin hown hE hP hD hA hS hl hex hz
  have hown : s.vm.findClass RX9 = some m.cls := hown
  refine lv_iload_n hx hb dX9_setEnvelope_0 rfl (lv_at hl 1 rfl) ?_
  refine g0_v (rS (rest := []) hx hb hml hown hE hP hD (c1854_X9_requireInstrument l g x2 h7 h8 s.heap.size) (kS_X9_requireInstrument hE (e991 hE) rfl rfl ⟨(Nat.le_of_ble_eq_true rfl), (Nat.le_of_ble_eq_true rfl)⟩) [] rfl (by decide) rfl hl.1 rfl (lv_room (Nat.le_of_ble_eq_true rfl)) dX9_setEnvelope_1 ⟨(Nat.le_of_ble_eq_true rfl), (Nat.le_of_ble_eq_true rfl)⟩) hP hD hS hA (fun u9 H locs hP hS => ?_)
  refine lv_iload_n hx hb dX9_setEnvelope_4 rfl (lv_at hl 2 rfl) ?_
  refine lv_iconst (v := 0) hx hb dX9_setEnvelope_5 (by decide) ?_
  refine lv_sipush (v := 5000) hx hb dX9_setEnvelope_6 (by decide) ?_
  refine gx_v (wr := []) (rSx (rest := []) hx hb hml hown hE hP hD hS hA hz (c2078_X9_requireRange l g hlx x3 h9 h10 H.size) (kS_X9_requireRange hE (e636 hE) rfl rfl ⟨(Nat.le_of_ble_eq_true rfl), (Nat.le_of_ble_eq_true rfl)⟩) [] rfl (by decide) rfl hl.1 rfl (lv_room (Nat.le_of_ble_eq_true rfl)) dX9_setEnvelope_9 ⟨(Nat.le_of_ble_eq_true rfl), (Nat.le_of_ble_eq_true rfl)⟩) hP hD hS hA [] [] rfl rfl (by decide) (by decide) (fun ce9 q9 H locs hP hD hS hq1 hq2 hq3 => ?_)
  exact x_out hex hlocks hq1 hq2 hq3 hP hD hS hAe hsz (Nat.le_of_ble_eq_true rfl) (Nat.le_of_ble_eq_true rfl) [] (by decide) rfl

set_option maxHeartbeats 4000000 in
set_option maxRecDepth 100000 in
theorem c2090_L_setEnvelope (l : Launch) (g : gG) (hlx : l.stackTraces = false) (q1 q7 : Nat) (x2 x3 x4 x5 x6 : Int32) (w12 w13 w14 w15 w16 w17 w18 w19 w20 w21 w22 : Value) (h8 : (0 : Int32) ≤ x2) (h9 : x2 < 4) (h10 : (0 : Int32) ≤ x3) (h11 : (5000 : Int32) < x3) (sz : Nat) : Met l yL_setEnvelope [Cond.codeWith yL_setEnvelope cL_setEnvelope 8 (some .int) [(0, 16, 19, 13), (0, 16, 23, 15)]] ({ frames := 8, cells := 1, slots := 6, locals := 148 } : Room) (va_Pc [.ref q1, .int x2, .int x3, .int x4, .int x5, .int x6, .ref q7] (PZ g sz [(q1, .inr (11, [w12, w13, w14, w15, w16, w17, w18, w19, w20, w21, w22]))])) (QI g [(q1, .inr (11, [w12, w13, w14, w15, w16, w17, w18, w19, w20, w21, w22]))] sz 2 (fun _ => [])) 1 6 (va_A [(q1, .inr (11, [w12, w13, w14, w15, w16, w17, w18, w19, w20, w21, w22]))] sz) := by
  refine ofH (by decide) (Nat.le_of_ble_eq_true rfl) rfl ?_
  intro p e s m args below meth c A ls hAe hsz hx hb hml hr hlocks hin hown hE hP hD hA hS hl htb hz
  have hown : s.vm.findClass RL = some m.cls := hown
  refine lv_aload hx hb dL_setEnvelope_0 (lv_at hl 6 rfl) ?_
  refine lv_iconst (v := 0) hx hb dL_setEnvelope_2 (by decide) ?_
  refine lv_aload_n hx hb dL_setEnvelope_3 rfl (lv_at hl 0 rfl) ?_
  refine lv_iload_n hx hb dL_setEnvelope_4 rfl (lv_at hl 1 rfl) ?_
  refine lv_iload_n hx hb dL_setEnvelope_5 rfl (lv_at hl 2 rfl) ?_
  refine lv_iload_n hx hb dL_setEnvelope_6 rfl (lv_at hl 3 rfl) ?_
  refine lv_iload hx hb dL_setEnvelope_7 (lv_at hl 4 rfl) ?_
  refine lv_iload hx hb dL_setEnvelope_9 (lv_at hl 5 rfl) ?_
  refine gx_i (wr := [(q1, .inr (11, [w12, w13, w14, w15, w16, w17, w18, w19, w20, w21, w22]))]) (rVx (rest := [.int 0, .ref q7]) hx hb hml hown hE hP hD hS hA hz 0 rfl rfl (c2089_X9_setEnvelope l g hlx q1 x2 x3 x4 x5 x6 h8 h9 h10 h11 s.heap.size) (kV_X9_setEnvelope hE (e987 hE) rfl rfl ⟨(Nat.le_of_ble_eq_true rfl), (Nat.le_of_ble_eq_true rfl)⟩) [] rfl (by decide) rfl hl.1 rfl (lv_room (Nat.le_of_ble_eq_true rfl)) dL_setEnvelope_11 ⟨(Nat.le_of_ble_eq_true rfl), (Nat.le_of_ble_eq_true rfl)⟩) hP hD hS hA [] [0] rfl rfl (by decide) (by decide) (fun ce9 q9 H locs hP hD hS hq1 hq2 hq3 => ?_)
  have hP : va_P g.1 vwCl [(q1, .inr (11, [w12, w13, w14, w15, w16, w17, w18, w19, w20, w21, w22]))] H := hP
  have hD : va_D A [(q1, .inr (11, [w12, w13, w14, w15, w16, w17, w18, w19, w20, w21, w22]))] := hD
  refine x_catch (name := "java/lang/IllegalArgumentException") (hh := [(0, 16, 19, 13), (0, 16, 23, 15)]) (tgt := 23) hown htb [⟨0, 16, 19, 13⟩] ⟨0, 16, 23, 15⟩ [] rfl (fun z hz => by
    rcases List.mem_cons.mp hz with rfl | hz
    · exact Or.inr ⟨by decide, "java/lang/IndexOutOfBoundsException", e532 hE, hE.2.2.2.2.2 ("java/lang/IllegalArgumentException", "java/lang/IndexOutOfBoundsException") (by decide +kernel)⟩
    exact nomatch hz) rfl (by decide) (e611 hE) (e641 hE) hq1 hq2 hq3 rfl ?_
  refine lv_astore (lv' := [(7, .ref q9), (0, .ref q1), (1, .int x2), (2, .int x3), (3, .int x4), (4, .int x5), (5, .int x6), (6, .ref q7)]) hx hb dL_setEnvelope_23 hl (by decide) rfl (fun ls hl => ?_)
  refine lv_iconst (v := 2) hx hb dL_setEnvelope_25 (by decide) ?_
  exact x_zret hx hb hr rfl rfl hlocks hP hD hS hAe hsz (Nat.le_of_ble_eq_true rfl) (Nat.le_of_ble_eq_true rfl) (fun _ => 0) [] (by decide) rfl dL_setEnvelope_26

set_option maxHeartbeats 4000000 in
set_option maxRecDepth 100000 in
theorem c2091_X10_setEnvelope (l : Launch) (g : gG) (q1 : Nat) (x2 x3 x4 x5 x6 : Int32) (w11 w12 w13 w14 w15 w16 w17 w18 w19 w20 w21 w22 w23 w24 w25 w26 w27 w28 w29 w30 w31 w32 w33 w34 w35 w36 w37 w38 w39 w40 w41 w42 w43 w44 w45 w46 w47 : Value) (h7 : (0 : Int32) ≤ x3) (h8 : (5000 : Int32) < x3) (h9 : (0 : Int32) ≤ x2) (h10 : x2 ≤ 3) (sz : Nat) : Met l yX10_setEnvelope [Cond.code yX10_setEnvelope cX10_setEnvelope 12 (some .int)] ({ frames := 2, cells := 0, slots := 0, locals := 42 } : Room) (va_Pc [.ref q1, .int x2, .int x3, .int x4, .int x5, .int x6] (PX g sz [(q1, .inr (12, [w11, w12, w13, w14, w15, w16, w17, w18, w19, w20, w21, w22, w23, w24, w25, w26, w27, w28, w29, w30, w31, w32, w33, w34, w35, w36, w37, w38, w39, w40, w41, w42, w43, w44, w45, w46, w47]))])) (QI g [(q1, .inr (12, [w11, w12, w13, w14, w15, w16, w17, w18, w19, w20, w21, w22, w23, w24, w25, w26, w27, w28, w29, w30, w31, w32, w33, w34, w35, w36, w37, w38, w39, w40, w41, w42, w43, w44, w45, w46, w47]))] sz 0 (fun _ => [(q1, .inr (12, [w11, w12, w13, w14, w15, w16, .int 2, w18, w19, w20, w21, w22, w23, w24, w25, w26, w27, w28, w29, w30, w31, w32, w33, w34, w35, w36, w37, w38, w39, w40, w41, w42, w43, w44, w45, w46, w47]))])) 0 0 (va_A [(q1, .inr (12, [w11, w12, w13, w14, w15, w16, w17, w18, w19, w20, w21, w22, w23, w24, w25, w26, w27, w28, w29, w30, w31, w32, w33, w34, w35, w36, w37, w38, w39, w40, w41, w42, w43, w44, w45, w46, w47]))] sz) := by
  refine ofN (by decide) (Nat.le_of_ble_eq_true rfl) rfl ?_
  intro p e s m args below meth c A ls hAe hsz hx hb hml hr hlocks hin hown hE hP hD hA hS hl
  have hown : s.vm.findClass RX10 = some m.cls := hown
  refine lv_iload_n hx hb dX10_setEnvelope_0 rfl (lv_at hl 2 rfl) ?_
  refine lv_iconst (v := 0) hx hb dX10_setEnvelope_1 (by decide) ?_
  refine lv_sipush (v := 5000) hx hb dX10_setEnvelope_2 (by decide) ?_
  refine g0_i (rS (rest := []) hx hb hml hown hE hP hD (c1841_X10_in l g x3 h7 h8 s.heap.size) (kS_X10_in hE (e1431 hE) rfl rfl ⟨(Nat.le_of_ble_eq_true rfl), (Nat.le_of_ble_eq_true rfl)⟩) [] rfl (by decide) rfl hl.1 rfl (lv_room (Nat.le_of_ble_eq_true rfl)) dX10_setEnvelope_5 ⟨(Nat.le_of_ble_eq_true rfl), (Nat.le_of_ble_eq_true rfl)⟩) hP hD hS hA (fun u9 H locs hP hS => ?_)
  refine lv_if_eq (tgt := 49) hx hb dX10_setEnvelope_8 (by decide) (fun _ => ?_) (fun h => absurd (by decide) h)
  refine lv_iconst (v := 0) hx hb dX10_setEnvelope_49 (by decide) ?_
  refine lv_istore (lv' := [(6, .int 0), (0, .ref q1), (1, .int x2), (2, .int x3), (3, .int x4), (4, .int x5), (5, .int x6)]) hx hb dX10_setEnvelope_50 hl (by decide) rfl (fun ls hl => ?_)
  refine lv_aload_n hx hb dX10_setEnvelope_52 rfl (lv_at hl 1 rfl) ?_
  refine lv_iload_n hx hb dX10_setEnvelope_53 rfl (lv_at hl 2 rfl) ?_
  refine g0_i (rS (rest := [.ref q1]) hx hb hml hown hE hP hD (c1857_X10_isInstrument l g x2 h9 h10 H.size) (kS_X10_isInstrument hE (e1645 hE) rfl rfl ⟨(Nat.le_of_ble_eq_true rfl), (Nat.le_of_ble_eq_true rfl)⟩) [] rfl (by decide) rfl hl.1 rfl (lv_room (Nat.le_of_ble_eq_true rfl)) dX10_setEnvelope_54 ⟨(Nat.le_of_ble_eq_true rfl), (Nat.le_of_ble_eq_true rfl)⟩) hP hD hS hA (fun u9 H locs hP hS => ?_)
  refine lv_if_ne (tgt := 64) hx hb dX10_setEnvelope_57 (by decide) (fun _ => ?_) (fun h => absurd h (by decide))
  refine lv_iload hx hb dX10_setEnvelope_64 (lv_at hl 0 rfl) ?_
  refine lv_if_ne (tgt := 73) hx hb dX10_setEnvelope_66 (by decide) (fun h => absurd h (by decide)) (fun _ => ?_)
  refine lv_iconst (v := 2) hx hb dX10_setEnvelope_69 (by decide) ?_
  refine lv_goto (tgt := 74) hx hb dX10_setEnvelope_70 (by decide) ?_
  refine pf_RX10_86 (ws' := [(q1, .inr (12, [w11, w12, w13, w14, w15, w16, .int 2, w18, w19, w20, w21, w22, w23, w24, w25, w26, w27, w28, w29, w30, w31, w32, w33, w34, w35, w36, w37, w38, w39, w40, w41, w42, w43, w44, w45, w46, w47]))]) hx hb hown hE hP hD hS 0 rfl rfl rfl (Nat.le_of_ble_eq_true rfl) dX10_setEnvelope_74 rfl (fun H locs hP hD hS => ?_)
  refine lv_aload_n hx hb dX10_setEnvelope_77 rfl (lv_at hl 1 rfl) ?_
  refine gf_RX10_86 hx hb hown hE hP 0 rfl rfl dX10_setEnvelope_78 ?_
  refine lv_if_le (tgt := 86) hx hb dX10_setEnvelope_81 (by decide) (fun h => absurd h (by decide)) (fun _ => ?_)
  refine lv_iconst (v := 0) hx hb dX10_setEnvelope_84 (by decide) ?_
  exact x_zret hx hb hr rfl rfl hlocks hP hD hS hAe hsz (Nat.le_of_ble_eq_true rfl) (Nat.le_of_ble_eq_true rfl) (fun _ => 0) [0] (by decide) rfl dX10_setEnvelope_85

set_option maxHeartbeats 4000000 in
set_option maxRecDepth 100000 in
theorem c2092_X9_requireIndex (l : Launch) (g : gG) (hlx : l.stackTraces = false) (x1 : Int32) (h2 : (0 : Int32) ≤ x1) (h3 : (4 : Int32) ≤ x1) (sz : Nat) : vx_Met l yX9_requireIndex [Cond.code yX9_requireIndex cX9_requireIndex 2 none] ({ frames := 6, cells := 1, slots := 6, locals := 100 } : Room) (va_Pc [.int x1, .int 4] (PZ g sz [])) NV (XW g [] sz "java/lang/IndexOutOfBoundsException" []) 1 6 (va_A [] sz) := by
  refine ofX (by decide) (Nat.le_of_ble_eq_true rfl) rfl ?_
  intro p e s m args below meth c A ls hAe hsz hx hb hml hr hlocks hin hown hE hP hD hA hS hl hex hz
  have hown : s.vm.findClass RX9 = some m.cls := hown
  refine lv_iload_n hx hb dX9_requireIndex_0 rfl (lv_at hl 0 rfl) ?_
  refine lv_if_lt (tgt := 9) hx hb dX9_requireIndex_1 (by decide) (fun h => absurd h (i_nlt h2)) (fun _ => ?_)
  refine lv_iload_n hx hb dX9_requireIndex_4 rfl (lv_at hl 0 rfl) ?_
  refine lv_iload_n hx hb dX9_requireIndex_5 rfl (lv_at hl 1 rfl) ?_
  refine lv_icmp_lt (tgt := 20) hx hb dX9_requireIndex_6 (by decide) (fun h => absurd h (i_nlt h3)) (fun _ => ?_)
  exact x_throwW (text := "no such number") (names := ["java/lang/RuntimeException", "java/lang/Exception"]) hx hb hlx hown hE (by decide) (by decide) (e623 hE) (e17 hE) (by decide +kernel) (th_324 hE) tg_324_320 hz (by rw [hml]; exact hl.1) dX9_requireIndex_9 dX9_requireIndex_12 dX9_requireIndex_13 dX9_requireIndex_16 dX9_requireIndex_19 hex (Nat.le_of_ble_eq_true rfl) (Nat.le_of_ble_eq_true rfl) (Nat.le_of_ble_eq_true rfl) (Nat.le_of_ble_eq_true rfl) hlocks hP hD hS hAe hsz (Nat.le_of_ble_eq_true rfl) (Nat.le_of_ble_eq_true rfl) [] (by decide) rfl

set_option maxHeartbeats 4000000 in
set_option maxRecDepth 100000 in
theorem c2093_X9_requireInstrument (l : Launch) (g : gG) (hlx : l.stackTraces = false) (x1 : Int32) (h2 : (0 : Int32) ≤ x1) (h3 : (4 : Int32) ≤ x1) (sz : Nat) : vx_Met l yX9_requireInstrument [Cond.code yX9_requireInstrument cX9_requireInstrument 1 none] ({ frames := 7, cells := 1, slots := 6, locals := 121 } : Room) (va_Pc [.int x1] (PZ g sz [])) NV (XW g [] sz "java/lang/IndexOutOfBoundsException" []) 1 6 (va_A [] sz) := by
  refine ofX (by decide) (Nat.le_of_ble_eq_true rfl) rfl ?_
  intro p e s m args below meth c A ls hAe hsz hx hb hml hr hlocks hin hown hE hP hD hA hS hl hex hz
  have hown : s.vm.findClass RX9 = some m.cls := hown
  refine lv_iload_n hx hb dX9_requireInstrument_0 rfl (lv_at hl 0 rfl) ?_
  refine lv_iconst (v := 4) hx hb dX9_requireInstrument_1 (by decide) ?_
  refine gx_v (wr := []) (rSx (rest := []) hx hb hml hown hE hP hD hS hA hz (c2092_X9_requireIndex l g hlx x1 h2 h3 s.heap.size) (kS_X9_requireIndex hE (e620 hE) rfl rfl ⟨(Nat.le_of_ble_eq_true rfl), (Nat.le_of_ble_eq_true rfl)⟩) [] rfl (by decide) rfl hl.1 rfl (lv_room (Nat.le_of_ble_eq_true rfl)) dX9_requireInstrument_2 ⟨(Nat.le_of_ble_eq_true rfl), (Nat.le_of_ble_eq_true rfl)⟩) hP hD hS hA [] [] rfl rfl (by decide) (by decide) (fun ce9 q9 H locs hP hD hS hq1 hq2 hq3 => ?_)
  exact x_out hex hlocks hq1 hq2 hq3 hP hD hS hAe hsz (Nat.le_of_ble_eq_true rfl) (Nat.le_of_ble_eq_true rfl) [] (by decide) rfl

set_option maxHeartbeats 4000000 in
set_option maxRecDepth 100000 in
theorem c2094_X9_setEnvelope (l : Launch) (g : gG) (hlx : l.stackTraces = false) (q1 : Nat) (x2 x3 x4 x5 x6 : Int32) (h7 : (0 : Int32) ≤ x2) (h8 : (4 : Int32) ≤ x2) (sz : Nat) : vx_Met l yX9_setEnvelope [Cond.code yX9_setEnvelope cX9_setEnvelope 7 (some .int)] ({ frames := 8, cells := 1, slots := 6, locals := 141 } : Room) (va_Pc [.ref q1, .int x2, .int x3, .int x4, .int x5, .int x6] (PZ g sz [])) NI (XW g [] sz "java/lang/IndexOutOfBoundsException" []) 1 6 (va_A [] sz) := by
  refine ofX (by decide) (Nat.le_of_ble_eq_true rfl) rfl ?_
  intro p e s m args below meth c A ls hAe hsz hx hb hml hr hlocks hin hown hE hP hD hA hS hl hex hz
  have hown : s.vm.findClass RX9 = some m.cls := hown
  refine lv_iload_n hx hb dX9_setEnvelope_0 rfl (lv_at hl 1 rfl) ?_
  refine gx_v (wr := []) (rSx (rest := []) hx hb hml hown hE hP hD hS hA hz (c2093_X9_requireInstrument l g hlx x2 h7 h8 s.heap.size) (kS_X9_requireInstrument hE (e991 hE) rfl rfl ⟨(Nat.le_of_ble_eq_true rfl), (Nat.le_of_ble_eq_true rfl)⟩) [] rfl (by decide) rfl hl.1 rfl (lv_room (Nat.le_of_ble_eq_true rfl)) dX9_setEnvelope_1 ⟨(Nat.le_of_ble_eq_true rfl), (Nat.le_of_ble_eq_true rfl)⟩) hP hD hS hA [] [] rfl rfl (by decide) (by decide) (fun ce9 q9 H locs hP hD hS hq1 hq2 hq3 => ?_)
  exact x_out hex hlocks hq1 hq2 hq3 hP hD hS hAe hsz (Nat.le_of_ble_eq_true rfl) (Nat.le_of_ble_eq_true rfl) [] (by decide) rfl

set_option maxHeartbeats 4000000 in
set_option maxRecDepth 100000 in
theorem c2095_L_setEnvelope (l : Launch) (g : gG) (hlx : l.stackTraces = false) (q1 q7 : Nat) (x2 x3 x4 x5 x6 : Int32) (w10 w11 w12 w13 w14 w15 w16 w17 w18 w19 w20 : Value) (h8 : (0 : Int32) ≤ x2) (h9 : (4 : Int32) ≤ x2) (sz : Nat) : Met l yL_setEnvelope [Cond.codeWith yL_setEnvelope cL_setEnvelope 8 (some .int) [(0, 16, 19, 13), (0, 16, 23, 15)]] ({ frames := 9, cells := 1, slots := 6, locals := 167 } : Room) (va_Pc [.ref q1, .int x2, .int x3, .int x4, .int x5, .int x6, .ref q7] (PZ g sz [(q1, .inr (11, [w10, w11, w12, w13, w14, w15, w16, w17, w18, w19, w20]))])) (QI g [(q1, .inr (11, [w10, w11, w12, w13, w14, w15, w16, w17, w18, w19, w20]))] sz 1 (fun _ => [])) 1 6 (va_A [(q1, .inr (11, [w10, w11, w12, w13, w14, w15, w16, w17, w18, w19, w20]))] sz) := by
  refine ofH (by decide) (Nat.le_of_ble_eq_true rfl) rfl ?_
  intro p e s m args below meth c A ls hAe hsz hx hb hml hr hlocks hin hown hE hP hD hA hS hl htb hz
  have hown : s.vm.findClass RL = some m.cls := hown
  refine lv_aload hx hb dL_setEnvelope_0 (lv_at hl 6 rfl) ?_
  refine lv_iconst (v := 0) hx hb dL_setEnvelope_2 (by decide) ?_
  refine lv_aload_n hx hb dL_setEnvelope_3 rfl (lv_at hl 0 rfl) ?_
  refine lv_iload_n hx hb dL_setEnvelope_4 rfl (lv_at hl 1 rfl) ?_
  refine lv_iload_n hx hb dL_setEnvelope_5 rfl (lv_at hl 2 rfl) ?_
  refine lv_iload_n hx hb dL_setEnvelope_6 rfl (lv_at hl 3 rfl) ?_
  refine lv_iload hx hb dL_setEnvelope_7 (lv_at hl 4 rfl) ?_
  refine lv_iload hx hb dL_setEnvelope_9 (lv_at hl 5 rfl) ?_
  refine gx_i (wr := [(q1, .inr (11, [w10, w11, w12, w13, w14, w15, w16, w17, w18, w19, w20]))]) (rVx (rest := [.int 0, .ref q7]) hx hb hml hown hE hP hD hS hA hz 0 rfl rfl (c2094_X9_setEnvelope l g hlx q1 x2 x3 x4 x5 x6 h8 h9 s.heap.size) (kV_X9_setEnvelope hE (e987 hE) rfl rfl ⟨(Nat.le_of_ble_eq_true rfl), (Nat.le_of_ble_eq_true rfl)⟩) [] rfl (by decide) rfl hl.1 rfl (lv_room (Nat.le_of_ble_eq_true rfl)) dL_setEnvelope_11 ⟨(Nat.le_of_ble_eq_true rfl), (Nat.le_of_ble_eq_true rfl)⟩) hP hD hS hA [] [0] rfl rfl (by decide) (by decide) (fun ce9 q9 H locs hP hD hS hq1 hq2 hq3 => ?_)
  have hP : va_P g.1 vwCl [(q1, .inr (11, [w10, w11, w12, w13, w14, w15, w16, w17, w18, w19, w20]))] H := hP
  have hD : va_D A [(q1, .inr (11, [w10, w11, w12, w13, w14, w15, w16, w17, w18, w19, w20]))] := hD
  refine x_catch (name := "java/lang/IndexOutOfBoundsException") (hh := [(0, 16, 19, 13), (0, 16, 23, 15)]) (tgt := 19) hown htb [] ⟨0, 16, 19, 13⟩ [⟨0, 16, 23, 15⟩] rfl (fun _ h => nomatch h) rfl (by decide) (e532 hE) (e625 hE) hq1 hq2 hq3 rfl ?_
  refine lv_astore (lv' := [(7, .ref q9), (0, .ref q1), (1, .int x2), (2, .int x3), (3, .int x4), (4, .int x5), (5, .int x6), (6, .ref q7)]) hx hb dL_setEnvelope_19 hl (by decide) rfl (fun ls hl => ?_)
  refine lv_iconst (v := 1) hx hb dL_setEnvelope_21 (by decide) ?_
  exact x_zret hx hb hr rfl rfl hlocks hP hD hS hAe hsz (Nat.le_of_ble_eq_true rfl) (Nat.le_of_ble_eq_true rfl) (fun _ => 0) [] (by decide) rfl dL_setEnvelope_22

set_option maxHeartbeats 4000000 in
set_option maxRecDepth 100000 in
theorem c2096_X10_isInstrument (l : Launch) (g : gG) (x1 : Int32) (h2 : (0 : Int32) ≤ x1) (h3 : (3 : Int32) < x1) (sz : Nat) : Met l yX10_isInstrument [Cond.code yX10_isInstrument cX10_isInstrument 1 (some .boolean)] ({ frames := 1, cells := 0, slots := 0, locals := 22 } : Room) (va_Pc [.int x1] (PX g sz [])) (QI g [] sz 0 (fun _ => [])) 0 0 (va_A [] sz) := by
  refine ofN (by decide) (Nat.le_of_ble_eq_true rfl) rfl ?_
  intro p e s m args below meth c A ls hAe hsz hx hb hml hr hlocks hin hown hE hP hD hA hS hl
  have hown : s.vm.findClass RX10 = some m.cls := hown
  refine lv_iload_n hx hb dX10_isInstrument_0 rfl (lv_at hl 0 rfl) ?_
  refine lv_iconst (v := 0) hx hb dX10_isInstrument_1 (by decide) ?_
  refine lv_iconst (v := 3) hx hb dX10_isInstrument_2 (by decide) ?_
  refine g0_i (rS (rest := []) hx hb hml hown hE hP hD (c883_X10_in l g x1 h2 h3 s.heap.size) (kS_X10_in hE (e1431 hE) rfl rfl ⟨(Nat.le_of_ble_eq_true rfl), (Nat.le_of_ble_eq_true rfl)⟩) [] rfl (by decide) rfl hl.1 rfl (lv_room (Nat.le_of_ble_eq_true rfl)) dX10_isInstrument_3 ⟨(Nat.le_of_ble_eq_true rfl), (Nat.le_of_ble_eq_true rfl)⟩) hP hD hS hA (fun u9 H locs hP hS => ?_)
  exact x_zret hx hb hr rfl rfl hlocks hP hD hS hAe hsz (Nat.le_of_ble_eq_true rfl) (Nat.le_of_ble_eq_true rfl) (fun _ => 0) [] (by decide) rfl dX10_isInstrument_6

set_option maxHeartbeats 4000000 in
set_option maxRecDepth 100000 in
theorem c2097_X10_setEnvelope (l : Launch) (g : gG) (q1 : Nat) (x2 x3 x4 x5 x6 : Int32) (w10 w11 w12 w13 w14 w15 w16 w17 w18 w19 w20 w21 w22 w23 w24 w25 w26 w27 w28 w29 w30 w31 w32 w33 w34 w35 w36 w37 w38 w39 w40 w41 w42 w43 w44 w45 w46 : Value) (h7 : x3 < 0) (h8 : (0 : Int32) ≤ x2) (h9 : (3 : Int32) < x2) (sz : Nat) : Met l yX10_setEnvelope [Cond.code yX10_setEnvelope cX10_setEnvelope 12 (some .int)] ({ frames := 2, cells := 0, slots := 0, locals := 42 } : Room) (va_Pc [.ref q1, .int x2, .int x3, .int x4, .int x5, .int x6] (PX g sz [(q1, .inr (12, [w10, w11, w12, w13, w14, w15, w16, w17, w18, w19, w20, w21, w22, w23, w24, w25, w26, w27, w28, w29, w30, w31, w32, w33, w34, w35, w36, w37, w38, w39, w40, w41, w42, w43, w44, w45, w46]))])) (QI g [(q1, .inr (12, [w10, w11, w12, w13, w14, w15, w16, w17, w18, w19, w20, w21, w22, w23, w24, w25, w26, w27, w28, w29, w30, w31, w32, w33, w34, w35, w36, w37, w38, w39, w40, w41, w42, w43, w44, w45, w46]))] sz 0 (fun _ => [(q1, .inr (12, [w10, w11, w12, w13, w14, w15, .int 1, w17, w18, w19, w20, w21, w22, w23, w24, w25, w26, w27, w28, w29, w30, w31, w32, w33, w34, w35, w36, w37, w38, w39, w40, w41, w42, w43, w44, w45, w46]))])) 0 0 (va_A [(q1, .inr (12, [w10, w11, w12, w13, w14, w15, w16, w17, w18, w19, w20, w21, w22, w23, w24, w25, w26, w27, w28, w29, w30, w31, w32, w33, w34, w35, w36, w37, w38, w39, w40, w41, w42, w43, w44, w45, w46]))] sz) := by
  refine ofN (by decide) (Nat.le_of_ble_eq_true rfl) rfl ?_
  intro p e s m args below meth c A ls hAe hsz hx hb hml hr hlocks hin hown hE hP hD hA hS hl
  have hown : s.vm.findClass RX10 = some m.cls := hown
  refine lv_iload_n hx hb dX10_setEnvelope_0 rfl (lv_at hl 2 rfl) ?_
  refine lv_iconst (v := 0) hx hb dX10_setEnvelope_1 (by decide) ?_
  refine lv_sipush (v := 5000) hx hb dX10_setEnvelope_2 (by decide) ?_
  refine g0_i (rS (rest := []) hx hb hml hown hE hP hD (c642_X10_in l g x3 5000 h7 s.heap.size) (kS_X10_in hE (e1431 hE) rfl rfl ⟨(Nat.le_of_ble_eq_true rfl), (Nat.le_of_ble_eq_true rfl)⟩) [] rfl (by decide) rfl hl.1 rfl (lv_room (Nat.le_of_ble_eq_true rfl)) dX10_setEnvelope_5 ⟨(Nat.le_of_ble_eq_true rfl), (Nat.le_of_ble_eq_true rfl)⟩) hP hD hS hA (fun u9 H locs hP hS => ?_)
  refine lv_if_eq (tgt := 49) hx hb dX10_setEnvelope_8 (by decide) (fun _ => ?_) (fun h => absurd (by decide) h)
  refine lv_iconst (v := 0) hx hb dX10_setEnvelope_49 (by decide) ?_
  refine lv_istore (lv' := [(6, .int 0), (0, .ref q1), (1, .int x2), (2, .int x3), (3, .int x4), (4, .int x5), (5, .int x6)]) hx hb dX10_setEnvelope_50 hl (by decide) rfl (fun ls hl => ?_)
  refine lv_aload_n hx hb dX10_setEnvelope_52 rfl (lv_at hl 1 rfl) ?_
  refine lv_iload_n hx hb dX10_setEnvelope_53 rfl (lv_at hl 2 rfl) ?_
  refine g0_i (rS (rest := [.ref q1]) hx hb hml hown hE hP hD (c2096_X10_isInstrument l g x2 h8 h9 H.size) (kS_X10_isInstrument hE (e1645 hE) rfl rfl ⟨(Nat.le_of_ble_eq_true rfl), (Nat.le_of_ble_eq_true rfl)⟩) [] rfl (by decide) rfl hl.1 rfl (lv_room (Nat.le_of_ble_eq_true rfl)) dX10_setEnvelope_54 ⟨(Nat.le_of_ble_eq_true rfl), (Nat.le_of_ble_eq_true rfl)⟩) hP hD hS hA (fun u9 H locs hP hS => ?_)
  refine lv_if_ne (tgt := 64) hx hb dX10_setEnvelope_57 (by decide) (fun h => absurd h (by decide)) (fun _ => ?_)
  refine lv_iconst (v := 1) hx hb dX10_setEnvelope_60 (by decide) ?_
  refine lv_goto (tgt := 74) hx hb dX10_setEnvelope_61 (by decide) ?_
  refine pf_RX10_86 (ws' := [(q1, .inr (12, [w10, w11, w12, w13, w14, w15, .int 1, w17, w18, w19, w20, w21, w22, w23, w24, w25, w26, w27, w28, w29, w30, w31, w32, w33, w34, w35, w36, w37, w38, w39, w40, w41, w42, w43, w44, w45, w46]))]) hx hb hown hE hP hD hS 0 rfl rfl rfl (Nat.le_of_ble_eq_true rfl) dX10_setEnvelope_74 rfl (fun H locs hP hD hS => ?_)
  refine lv_aload_n hx hb dX10_setEnvelope_77 rfl (lv_at hl 1 rfl) ?_
  refine gf_RX10_86 hx hb hown hE hP 0 rfl rfl dX10_setEnvelope_78 ?_
  refine lv_if_le (tgt := 86) hx hb dX10_setEnvelope_81 (by decide) (fun h => absurd h (by decide)) (fun _ => ?_)
  refine lv_iconst (v := 0) hx hb dX10_setEnvelope_84 (by decide) ?_
  exact x_zret hx hb hr rfl rfl hlocks hP hD hS hAe hsz (Nat.le_of_ble_eq_true rfl) (Nat.le_of_ble_eq_true rfl) (fun _ => 0) [0] (by decide) rfl dX10_setEnvelope_85

set_option maxHeartbeats 4000000 in
set_option maxRecDepth 100000 in
theorem c2098_X10_setEnvelope (l : Launch) (g : gG) (q1 : Nat) (x2 x3 x4 x5 x6 : Int32) (w11 w12 w13 w14 w15 w16 w17 w18 w19 w20 w21 w22 w23 w24 w25 w26 w27 w28 w29 w30 w31 w32 w33 w34 w35 w36 w37 w38 w39 w40 w41 w42 w43 w44 w45 w46 w47 : Value) (h7 : (0 : Int32) ≤ x3) (h8 : (5000 : Int32) < x3) (h9 : (0 : Int32) ≤ x2) (h10 : (3 : Int32) < x2) (sz : Nat) : Met l yX10_setEnvelope [Cond.code yX10_setEnvelope cX10_setEnvelope 12 (some .int)] ({ frames := 2, cells := 0, slots := 0, locals := 42 } : Room) (va_Pc [.ref q1, .int x2, .int x3, .int x4, .int x5, .int x6] (PX g sz [(q1, .inr (12, [w11, w12, w13, w14, w15, w16, w17, w18, w19, w20, w21, w22, w23, w24, w25, w26, w27, w28, w29, w30, w31, w32, w33, w34, w35, w36, w37, w38, w39, w40, w41, w42, w43, w44, w45, w46, w47]))])) (QI g [(q1, .inr (12, [w11, w12, w13, w14, w15, w16, w17, w18, w19, w20, w21, w22, w23, w24, w25, w26, w27, w28, w29, w30, w31, w32, w33, w34, w35, w36, w37, w38, w39, w40, w41, w42, w43, w44, w45, w46, w47]))] sz 0 (fun _ => [(q1, .inr (12, [w11, w12, w13, w14, w15, w16, .int 1, w18, w19, w20, w21, w22, w23, w24, w25, w26, w27, w28, w29, w30, w31, w32, w33, w34, w35, w36, w37, w38, w39, w40, w41, w42, w43, w44, w45, w46, w47]))])) 0 0 (va_A [(q1, .inr (12, [w11, w12, w13, w14, w15, w16, w17, w18, w19, w20, w21, w22, w23, w24, w25, w26, w27, w28, w29, w30, w31, w32, w33, w34, w35, w36, w37, w38, w39, w40, w41, w42, w43, w44, w45, w46, w47]))] sz) := by
  refine ofN (by decide) (Nat.le_of_ble_eq_true rfl) rfl ?_
  intro p e s m args below meth c A ls hAe hsz hx hb hml hr hlocks hin hown hE hP hD hA hS hl
  have hown : s.vm.findClass RX10 = some m.cls := hown
  refine lv_iload_n hx hb dX10_setEnvelope_0 rfl (lv_at hl 2 rfl) ?_
  refine lv_iconst (v := 0) hx hb dX10_setEnvelope_1 (by decide) ?_
  refine lv_sipush (v := 5000) hx hb dX10_setEnvelope_2 (by decide) ?_
  refine g0_i (rS (rest := []) hx hb hml hown hE hP hD (c1841_X10_in l g x3 h7 h8 s.heap.size) (kS_X10_in hE (e1431 hE) rfl rfl ⟨(Nat.le_of_ble_eq_true rfl), (Nat.le_of_ble_eq_true rfl)⟩) [] rfl (by decide) rfl hl.1 rfl (lv_room (Nat.le_of_ble_eq_true rfl)) dX10_setEnvelope_5 ⟨(Nat.le_of_ble_eq_true rfl), (Nat.le_of_ble_eq_true rfl)⟩) hP hD hS hA (fun u9 H locs hP hS => ?_)
  refine lv_if_eq (tgt := 49) hx hb dX10_setEnvelope_8 (by decide) (fun _ => ?_) (fun h => absurd (by decide) h)
  refine lv_iconst (v := 0) hx hb dX10_setEnvelope_49 (by decide) ?_
  refine lv_istore (lv' := [(6, .int 0), (0, .ref q1), (1, .int x2), (2, .int x3), (3, .int x4), (4, .int x5), (5, .int x6)]) hx hb dX10_setEnvelope_50 hl (by decide) rfl (fun ls hl => ?_)
  refine lv_aload_n hx hb dX10_setEnvelope_52 rfl (lv_at hl 1 rfl) ?_
  refine lv_iload_n hx hb dX10_setEnvelope_53 rfl (lv_at hl 2 rfl) ?_
  refine g0_i (rS (rest := [.ref q1]) hx hb hml hown hE hP hD (c2096_X10_isInstrument l g x2 h9 h10 H.size) (kS_X10_isInstrument hE (e1645 hE) rfl rfl ⟨(Nat.le_of_ble_eq_true rfl), (Nat.le_of_ble_eq_true rfl)⟩) [] rfl (by decide) rfl hl.1 rfl (lv_room (Nat.le_of_ble_eq_true rfl)) dX10_setEnvelope_54 ⟨(Nat.le_of_ble_eq_true rfl), (Nat.le_of_ble_eq_true rfl)⟩) hP hD hS hA (fun u9 H locs hP hS => ?_)
  refine lv_if_ne (tgt := 64) hx hb dX10_setEnvelope_57 (by decide) (fun h => absurd h (by decide)) (fun _ => ?_)
  refine lv_iconst (v := 1) hx hb dX10_setEnvelope_60 (by decide) ?_
  refine lv_goto (tgt := 74) hx hb dX10_setEnvelope_61 (by decide) ?_
  refine pf_RX10_86 (ws' := [(q1, .inr (12, [w11, w12, w13, w14, w15, w16, .int 1, w18, w19, w20, w21, w22, w23, w24, w25, w26, w27, w28, w29, w30, w31, w32, w33, w34, w35, w36, w37, w38, w39, w40, w41, w42, w43, w44, w45, w46, w47]))]) hx hb hown hE hP hD hS 0 rfl rfl rfl (Nat.le_of_ble_eq_true rfl) dX10_setEnvelope_74 rfl (fun H locs hP hD hS => ?_)
  refine lv_aload_n hx hb dX10_setEnvelope_77 rfl (lv_at hl 1 rfl) ?_
  refine gf_RX10_86 hx hb hown hE hP 0 rfl rfl dX10_setEnvelope_78 ?_
  refine lv_if_le (tgt := 86) hx hb dX10_setEnvelope_81 (by decide) (fun h => absurd h (by decide)) (fun _ => ?_)
  refine lv_iconst (v := 0) hx hb dX10_setEnvelope_84 (by decide) ?_
  exact x_zret hx hb hr rfl rfl hlocks hP hD hS hAe hsz (Nat.le_of_ble_eq_true rfl) (Nat.le_of_ble_eq_true rfl) (fun _ => 0) [0] (by decide) rfl dX10_setEnvelope_85

set_option maxHeartbeats 4000000 in
set_option maxRecDepth 100000 in
theorem c2099_X10_setEnvelope (l : Launch) (g : gG) (q1 : Nat) (x2 x3 x4 x5 x6 : Int32) (w12 w13 w14 w15 w16 w17 w18 w19 w20 w21 w22 w23 w24 w25 w26 w27 w28 w29 w30 w31 w32 w33 w34 w35 w36 w37 w38 w39 w40 w41 w42 w43 w44 w45 w46 w47 w48 : Value) (h7 : (0 : Int32) ≤ x3) (h8 : x3 ≤ 5000) (h9 : x4 < 0) (h10 : (0 : Int32) ≤ x2) (h11 : (3 : Int32) < x2) (sz : Nat) : Met l yX10_setEnvelope [Cond.code yX10_setEnvelope cX10_setEnvelope 12 (some .int)] ({ frames := 2, cells := 0, slots := 0, locals := 42 } : Room) (va_Pc [.ref q1, .int x2, .int x3, .int x4, .int x5, .int x6] (PX g sz [(q1, .inr (12, [w12, w13, w14, w15, w16, w17, w18, w19, w20, w21, w22, w23, w24, w25, w26, w27, w28, w29, w30, w31, w32, w33, w34, w35, w36, w37, w38, w39, w40, w41, w42, w43, w44, w45, w46, w47, w48]))])) (QI g [(q1, .inr (12, [w12, w13, w14, w15, w16, w17, w18, w19, w20, w21, w22, w23, w24, w25, w26, w27, w28, w29, w30, w31, w32, w33, w34, w35, w36, w37, w38, w39, w40, w41, w42, w43, w44, w45, w46, w47, w48]))] sz 0 (fun _ => [(q1, .inr (12, [w12, w13, w14, w15, w16, w17, .int 1, w19, w20, w21, w22, w23, w24, w25, w26, w27, w28, w29, w30, w31, w32, w33, w34, w35, w36, w37, w38, w39, w40, w41, w42, w43, w44, w45, w46, w47, w48]))])) 0 0 (va_A [(q1, .inr (12, [w12, w13, w14, w15, w16, w17, w18, w19, w20, w21, w22, w23, w24, w25, w26, w27, w28, w29, w30, w31, w32, w33, w34, w35, w36, w37, w38, w39, w40, w41, w42, w43, w44, w45, w46, w47, w48]))] sz) := by
  refine ofN (by decide) (Nat.le_of_ble_eq_true rfl) rfl ?_
  intro p e s m args below meth c A ls hAe hsz hx hb hml hr hlocks hin hown hE hP hD hA hS hl
  have hown : s.vm.findClass RX10 = some m.cls := hown
  refine lv_iload_n hx hb dX10_setEnvelope_0 rfl (lv_at hl 2 rfl) ?_
  refine lv_iconst (v := 0) hx hb dX10_setEnvelope_1 (by decide) ?_
  refine lv_sipush (v := 5000) hx hb dX10_setEnvelope_2 (by decide) ?_
  refine g0_i (rS (rest := []) hx hb hml hown hE hP hD (c1843_X10_in l g x3 h7 h8 s.heap.size) (kS_X10_in hE (e1431 hE) rfl rfl ⟨(Nat.le_of_ble_eq_true rfl), (Nat.le_of_ble_eq_true rfl)⟩) [] rfl (by decide) rfl hl.1 rfl (lv_room (Nat.le_of_ble_eq_true rfl)) dX10_setEnvelope_5 ⟨(Nat.le_of_ble_eq_true rfl), (Nat.le_of_ble_eq_true rfl)⟩) hP hD hS hA (fun u9 H locs hP hS => ?_)
  refine lv_if_eq (tgt := 49) hx hb dX10_setEnvelope_8 (by decide) (fun h => absurd h (by decide)) (fun _ => ?_)
  refine lv_iload_n hx hb dX10_setEnvelope_11 rfl (lv_at hl 3 rfl) ?_
  refine lv_iconst (v := 0) hx hb dX10_setEnvelope_12 (by decide) ?_
  refine lv_sipush (v := 5000) hx hb dX10_setEnvelope_13 (by decide) ?_
  refine g0_i (rS (rest := []) hx hb hml hown hE hP hD (c642_X10_in l g x4 5000 h9 H.size) (kS_X10_in hE (e1431 hE) rfl rfl ⟨(Nat.le_of_ble_eq_true rfl), (Nat.le_of_ble_eq_true rfl)⟩) [] rfl (by decide) rfl hl.1 rfl (lv_room (Nat.le_of_ble_eq_true rfl)) dX10_setEnvelope_16 ⟨(Nat.le_of_ble_eq_true rfl), (Nat.le_of_ble_eq_true rfl)⟩) hP hD hS hA (fun u9 H locs hP hS => ?_)
  refine lv_if_eq (tgt := 49) hx hb dX10_setEnvelope_19 (by decide) (fun _ => ?_) (fun h => absurd (by decide) h)
  refine lv_iconst (v := 0) hx hb dX10_setEnvelope_49 (by decide) ?_
  refine lv_istore (lv' := [(6, .int 0), (0, .ref q1), (1, .int x2), (2, .int x3), (3, .int x4), (4, .int x5), (5, .int x6)]) hx hb dX10_setEnvelope_50 hl (by decide) rfl (fun ls hl => ?_)
  refine lv_aload_n hx hb dX10_setEnvelope_52 rfl (lv_at hl 1 rfl) ?_
  refine lv_iload_n hx hb dX10_setEnvelope_53 rfl (lv_at hl 2 rfl) ?_
  refine g0_i (rS (rest := [.ref q1]) hx hb hml hown hE hP hD (c2096_X10_isInstrument l g x2 h10 h11 H.size) (kS_X10_isInstrument hE (e1645 hE) rfl rfl ⟨(Nat.le_of_ble_eq_true rfl), (Nat.le_of_ble_eq_true rfl)⟩) [] rfl (by decide) rfl hl.1 rfl (lv_room (Nat.le_of_ble_eq_true rfl)) dX10_setEnvelope_54 ⟨(Nat.le_of_ble_eq_true rfl), (Nat.le_of_ble_eq_true rfl)⟩) hP hD hS hA (fun u9 H locs hP hS => ?_)
  refine lv_if_ne (tgt := 64) hx hb dX10_setEnvelope_57 (by decide) (fun h => absurd h (by decide)) (fun _ => ?_)
  refine lv_iconst (v := 1) hx hb dX10_setEnvelope_60 (by decide) ?_
  refine lv_goto (tgt := 74) hx hb dX10_setEnvelope_61 (by decide) ?_
  refine pf_RX10_86 (ws' := [(q1, .inr (12, [w12, w13, w14, w15, w16, w17, .int 1, w19, w20, w21, w22, w23, w24, w25, w26, w27, w28, w29, w30, w31, w32, w33, w34, w35, w36, w37, w38, w39, w40, w41, w42, w43, w44, w45, w46, w47, w48]))]) hx hb hown hE hP hD hS 0 rfl rfl rfl (Nat.le_of_ble_eq_true rfl) dX10_setEnvelope_74 rfl (fun H locs hP hD hS => ?_)
  refine lv_aload_n hx hb dX10_setEnvelope_77 rfl (lv_at hl 1 rfl) ?_
  refine gf_RX10_86 hx hb hown hE hP 0 rfl rfl dX10_setEnvelope_78 ?_
  refine lv_if_le (tgt := 86) hx hb dX10_setEnvelope_81 (by decide) (fun h => absurd h (by decide)) (fun _ => ?_)
  refine lv_iconst (v := 0) hx hb dX10_setEnvelope_84 (by decide) ?_
  exact x_zret hx hb hr rfl rfl hlocks hP hD hS hAe hsz (Nat.le_of_ble_eq_true rfl) (Nat.le_of_ble_eq_true rfl) (fun _ => 0) [0] (by decide) rfl dX10_setEnvelope_85

set_option maxHeartbeats 4000000 in
set_option maxRecDepth 100000 in
theorem c2100_X10_setEnvelope (l : Launch) (g : gG) (q1 : Nat) (x2 x3 x4 x5 x6 : Int32) (w13 w14 w15 w16 w17 w18 w19 w20 w21 w22 w23 w24 w25 w26 w27 w28 w29 w30 w31 w32 w33 w34 w35 w36 w37 w38 w39 w40 w41 w42 w43 w44 w45 w46 w47 w48 w49 : Value) (h7 : (0 : Int32) ≤ x3) (h8 : x3 ≤ 5000) (h9 : (0 : Int32) ≤ x4) (h10 : (5000 : Int32) < x4) (h11 : (0 : Int32) ≤ x2) (h12 : (3 : Int32) < x2) (sz : Nat) : Met l yX10_setEnvelope [Cond.code yX10_setEnvelope cX10_setEnvelope 12 (some .int)] ({ frames := 2, cells := 0, slots := 0, locals := 42 } : Room) (va_Pc [.ref q1, .int x2, .int x3, .int x4, .int x5, .int x6] (PX g sz [(q1, .inr (12, [w13, w14, w15, w16, w17, w18, w19, w20, w21, w22, w23, w24, w25, w26, w27, w28, w29, w30, w31, w32, w33, w34, w35, w36, w37, w38, w39, w40, w41, w42, w43, w44, w45, w46, w47, w48, w49]))])) (QI g [(q1, .inr (12, [w13, w14, w15, w16, w17, w18, w19, w20, w21, w22, w23, w24, w25, w26, w27, w28, w29, w30, w31, w32, w33, w34, w35, w36, w37, w38, w39, w40, w41, w42, w43, w44, w45, w46, w47, w48, w49]))] sz 0 (fun _ => [(q1, .inr (12, [w13, w14, w15, w16, w17, w18, .int 1, w20, w21, w22, w23, w24, w25, w26, w27, w28, w29, w30, w31, w32, w33, w34, w35, w36, w37, w38, w39, w40, w41, w42, w43, w44, w45, w46, w47, w48, w49]))])) 0 0 (va_A [(q1, .inr (12, [w13, w14, w15, w16, w17, w18, w19, w20, w21, w22, w23, w24, w25, w26, w27, w28, w29, w30, w31, w32, w33, w34, w35, w36, w37, w38, w39, w40, w41, w42, w43, w44, w45, w46, w47, w48, w49]))] sz) := by
  refine ofN (by decide) (Nat.le_of_ble_eq_true rfl) rfl ?_
  intro p e s m args below meth c A ls hAe hsz hx hb hml hr hlocks hin hown hE hP hD hA hS hl
  have hown : s.vm.findClass RX10 = some m.cls := hown
  refine lv_iload_n hx hb dX10_setEnvelope_0 rfl (lv_at hl 2 rfl) ?_
  refine lv_iconst (v := 0) hx hb dX10_setEnvelope_1 (by decide) ?_
  refine lv_sipush (v := 5000) hx hb dX10_setEnvelope_2 (by decide) ?_
  refine g0_i (rS (rest := []) hx hb hml hown hE hP hD (c1843_X10_in l g x3 h7 h8 s.heap.size) (kS_X10_in hE (e1431 hE) rfl rfl ⟨(Nat.le_of_ble_eq_true rfl), (Nat.le_of_ble_eq_true rfl)⟩) [] rfl (by decide) rfl hl.1 rfl (lv_room (Nat.le_of_ble_eq_true rfl)) dX10_setEnvelope_5 ⟨(Nat.le_of_ble_eq_true rfl), (Nat.le_of_ble_eq_true rfl)⟩) hP hD hS hA (fun u9 H locs hP hS => ?_)
  refine lv_if_eq (tgt := 49) hx hb dX10_setEnvelope_8 (by decide) (fun h => absurd h (by decide)) (fun _ => ?_)
  refine lv_iload_n hx hb dX10_setEnvelope_11 rfl (lv_at hl 3 rfl) ?_
  refine lv_iconst (v := 0) hx hb dX10_setEnvelope_12 (by decide) ?_
  refine lv_sipush (v := 5000) hx hb dX10_setEnvelope_13 (by decide) ?_
  refine g0_i (rS (rest := []) hx hb hml hown hE hP hD (c1841_X10_in l g x4 h9 h10 H.size) (kS_X10_in hE (e1431 hE) rfl rfl ⟨(Nat.le_of_ble_eq_true rfl), (Nat.le_of_ble_eq_true rfl)⟩) [] rfl (by decide) rfl hl.1 rfl (lv_room (Nat.le_of_ble_eq_true rfl)) dX10_setEnvelope_16 ⟨(Nat.le_of_ble_eq_true rfl), (Nat.le_of_ble_eq_true rfl)⟩) hP hD hS hA (fun u9 H locs hP hS => ?_)
  refine lv_if_eq (tgt := 49) hx hb dX10_setEnvelope_19 (by decide) (fun _ => ?_) (fun h => absurd (by decide) h)
  refine lv_iconst (v := 0) hx hb dX10_setEnvelope_49 (by decide) ?_
  refine lv_istore (lv' := [(6, .int 0), (0, .ref q1), (1, .int x2), (2, .int x3), (3, .int x4), (4, .int x5), (5, .int x6)]) hx hb dX10_setEnvelope_50 hl (by decide) rfl (fun ls hl => ?_)
  refine lv_aload_n hx hb dX10_setEnvelope_52 rfl (lv_at hl 1 rfl) ?_
  refine lv_iload_n hx hb dX10_setEnvelope_53 rfl (lv_at hl 2 rfl) ?_
  refine g0_i (rS (rest := [.ref q1]) hx hb hml hown hE hP hD (c2096_X10_isInstrument l g x2 h11 h12 H.size) (kS_X10_isInstrument hE (e1645 hE) rfl rfl ⟨(Nat.le_of_ble_eq_true rfl), (Nat.le_of_ble_eq_true rfl)⟩) [] rfl (by decide) rfl hl.1 rfl (lv_room (Nat.le_of_ble_eq_true rfl)) dX10_setEnvelope_54 ⟨(Nat.le_of_ble_eq_true rfl), (Nat.le_of_ble_eq_true rfl)⟩) hP hD hS hA (fun u9 H locs hP hS => ?_)
  refine lv_if_ne (tgt := 64) hx hb dX10_setEnvelope_57 (by decide) (fun h => absurd h (by decide)) (fun _ => ?_)
  refine lv_iconst (v := 1) hx hb dX10_setEnvelope_60 (by decide) ?_
  refine lv_goto (tgt := 74) hx hb dX10_setEnvelope_61 (by decide) ?_
  refine pf_RX10_86 (ws' := [(q1, .inr (12, [w13, w14, w15, w16, w17, w18, .int 1, w20, w21, w22, w23, w24, w25, w26, w27, w28, w29, w30, w31, w32, w33, w34, w35, w36, w37, w38, w39, w40, w41, w42, w43, w44, w45, w46, w47, w48, w49]))]) hx hb hown hE hP hD hS 0 rfl rfl rfl (Nat.le_of_ble_eq_true rfl) dX10_setEnvelope_74 rfl (fun H locs hP hD hS => ?_)
  refine lv_aload_n hx hb dX10_setEnvelope_77 rfl (lv_at hl 1 rfl) ?_
  refine gf_RX10_86 hx hb hown hE hP 0 rfl rfl dX10_setEnvelope_78 ?_
  refine lv_if_le (tgt := 86) hx hb dX10_setEnvelope_81 (by decide) (fun h => absurd h (by decide)) (fun _ => ?_)
  refine lv_iconst (v := 0) hx hb dX10_setEnvelope_84 (by decide) ?_
  exact x_zret hx hb hr rfl rfl hlocks hP hD hS hAe hsz (Nat.le_of_ble_eq_true rfl) (Nat.le_of_ble_eq_true rfl) (fun _ => 0) [0] (by decide) rfl dX10_setEnvelope_85

set_option maxHeartbeats 4000000 in
set_option maxRecDepth 100000 in
theorem c2101_X10_setEnvelope (l : Launch) (g : gG) (q1 : Nat) (x2 x3 x4 x5 x6 : Int32) (w14 w15 w16 w17 w18 w19 w20 w21 w22 w23 w24 w25 w26 w27 w28 w29 w30 w31 w32 w33 w34 w35 w36 w37 w38 w39 w40 w41 w42 w43 w44 w45 w46 w47 w48 w49 w50 : Value) (h7 : (0 : Int32) ≤ x3) (h8 : x3 ≤ 5000) (h9 : (0 : Int32) ≤ x4) (h10 : x4 ≤ 5000) (h11 : x5 < 0) (h12 : (0 : Int32) ≤ x2) (h13 : (3 : Int32) < x2) (sz : Nat) : Met l yX10_setEnvelope [Cond.code yX10_setEnvelope cX10_setEnvelope 12 (some .int)] ({ frames := 2, cells := 0, slots := 0, locals := 42 } : Room) (va_Pc [.ref q1, .int x2, .int x3, .int x4, .int x5, .int x6] (PX g sz [(q1, .inr (12, [w14, w15, w16, w17, w18, w19, w20, w21, w22, w23, w24, w25, w26, w27, w28, w29, w30, w31, w32, w33, w34, w35, w36, w37, w38, w39, w40, w41, w42, w43, w44, w45, w46, w47, w48, w49, w50]))])) (QI g [(q1, .inr (12, [w14, w15, w16, w17, w18, w19, w20, w21, w22, w23, w24, w25, w26, w27, w28, w29, w30, w31, w32, w33, w34, w35, w36, w37, w38, w39, w40, w41, w42, w43, w44, w45, w46, w47, w48, w49, w50]))] sz 0 (fun _ => [(q1, .inr (12, [w14, w15, w16, w17, w18, w19, .int 1, w21, w22, w23, w24, w25, w26, w27, w28, w29, w30, w31, w32, w33, w34, w35, w36, w37, w38, w39, w40, w41, w42, w43, w44, w45, w46, w47, w48, w49, w50]))])) 0 0 (va_A [(q1, .inr (12, [w14, w15, w16, w17, w18, w19, w20, w21, w22, w23, w24, w25, w26, w27, w28, w29, w30, w31, w32, w33, w34, w35, w36, w37, w38, w39, w40, w41, w42, w43, w44, w45, w46, w47, w48, w49, w50]))] sz) := by
  refine ofN (by decide) (Nat.le_of_ble_eq_true rfl) rfl ?_
  intro p e s m args below meth c A ls hAe hsz hx hb hml hr hlocks hin hown hE hP hD hA hS hl
  have hown : s.vm.findClass RX10 = some m.cls := hown
  refine lv_iload_n hx hb dX10_setEnvelope_0 rfl (lv_at hl 2 rfl) ?_
  refine lv_iconst (v := 0) hx hb dX10_setEnvelope_1 (by decide) ?_
  refine lv_sipush (v := 5000) hx hb dX10_setEnvelope_2 (by decide) ?_
  refine g0_i (rS (rest := []) hx hb hml hown hE hP hD (c1843_X10_in l g x3 h7 h8 s.heap.size) (kS_X10_in hE (e1431 hE) rfl rfl ⟨(Nat.le_of_ble_eq_true rfl), (Nat.le_of_ble_eq_true rfl)⟩) [] rfl (by decide) rfl hl.1 rfl (lv_room (Nat.le_of_ble_eq_true rfl)) dX10_setEnvelope_5 ⟨(Nat.le_of_ble_eq_true rfl), (Nat.le_of_ble_eq_true rfl)⟩) hP hD hS hA (fun u9 H locs hP hS => ?_)
  refine lv_if_eq (tgt := 49) hx hb dX10_setEnvelope_8 (by decide) (fun h => absurd h (by decide)) (fun _ => ?_)
  refine lv_iload_n hx hb dX10_setEnvelope_11 rfl (lv_at hl 3 rfl) ?_
  refine lv_iconst (v := 0) hx hb dX10_setEnvelope_12 (by decide) ?_
  refine lv_sipush (v := 5000) hx hb dX10_setEnvelope_13 (by decide) ?_
  refine g0_i (rS (rest := []) hx hb hml hown hE hP hD (c1843_X10_in l g x4 h9 h10 H.size) (kS_X10_in hE (e1431 hE) rfl rfl ⟨(Nat.le_of_ble_eq_true rfl), (Nat.le_of_ble_eq_true rfl)⟩) [] rfl (by decide) rfl hl.1 rfl (lv_room (Nat.le_of_ble_eq_true rfl)) dX10_setEnvelope_16 ⟨(Nat.le_of_ble_eq_true rfl), (Nat.le_of_ble_eq_true rfl)⟩) hP hD hS hA (fun u9 H locs hP hS => ?_)
  refine lv_if_eq (tgt := 49) hx hb dX10_setEnvelope_19 (by decide) (fun h => absurd h (by decide)) (fun _ => ?_)
  refine lv_iload hx hb dX10_setEnvelope_22 (lv_at hl 4 rfl) ?_
  refine lv_iconst (v := 0) hx hb dX10_setEnvelope_24 (by decide) ?_
  refine lv_bipush (v := 100) hx hb dX10_setEnvelope_25 (by decide) ?_
  refine g0_i (rS (rest := []) hx hb hml hown hE hP hD (c642_X10_in l g x5 100 h11 H.size) (kS_X10_in hE (e1431 hE) rfl rfl ⟨(Nat.le_of_ble_eq_true rfl), (Nat.le_of_ble_eq_true rfl)⟩) [] rfl (by decide) rfl hl.1 rfl (lv_room (Nat.le_of_ble_eq_true rfl)) dX10_setEnvelope_27 ⟨(Nat.le_of_ble_eq_true rfl), (Nat.le_of_ble_eq_true rfl)⟩) hP hD hS hA (fun u9 H locs hP hS => ?_)
  refine lv_if_eq (tgt := 49) hx hb dX10_setEnvelope_30 (by decide) (fun _ => ?_) (fun h => absurd (by decide) h)
  refine lv_iconst (v := 0) hx hb dX10_setEnvelope_49 (by decide) ?_
  refine lv_istore (lv' := [(6, .int 0), (0, .ref q1), (1, .int x2), (2, .int x3), (3, .int x4), (4, .int x5), (5, .int x6)]) hx hb dX10_setEnvelope_50 hl (by decide) rfl (fun ls hl => ?_)
  refine lv_aload_n hx hb dX10_setEnvelope_52 rfl (lv_at hl 1 rfl) ?_
  refine lv_iload_n hx hb dX10_setEnvelope_53 rfl (lv_at hl 2 rfl) ?_
  refine g0_i (rS (rest := [.ref q1]) hx hb hml hown hE hP hD (c2096_X10_isInstrument l g x2 h12 h13 H.size) (kS_X10_isInstrument hE (e1645 hE) rfl rfl ⟨(Nat.le_of_ble_eq_true rfl), (Nat.le_of_ble_eq_true rfl)⟩) [] rfl (by decide) rfl hl.1 rfl (lv_room (Nat.le_of_ble_eq_true rfl)) dX10_setEnvelope_54 ⟨(Nat.le_of_ble_eq_true rfl), (Nat.le_of_ble_eq_true rfl)⟩) hP hD hS hA (fun u9 H locs hP hS => ?_)
  refine lv_if_ne (tgt := 64) hx hb dX10_setEnvelope_57 (by decide) (fun h => absurd h (by decide)) (fun _ => ?_)
  refine lv_iconst (v := 1) hx hb dX10_setEnvelope_60 (by decide) ?_
  refine lv_goto (tgt := 74) hx hb dX10_setEnvelope_61 (by decide) ?_
  refine pf_RX10_86 (ws' := [(q1, .inr (12, [w14, w15, w16, w17, w18, w19, .int 1, w21, w22, w23, w24, w25, w26, w27, w28, w29, w30, w31, w32, w33, w34, w35, w36, w37, w38, w39, w40, w41, w42, w43, w44, w45, w46, w47, w48, w49, w50]))]) hx hb hown hE hP hD hS 0 rfl rfl rfl (Nat.le_of_ble_eq_true rfl) dX10_setEnvelope_74 rfl (fun H locs hP hD hS => ?_)
  refine lv_aload_n hx hb dX10_setEnvelope_77 rfl (lv_at hl 1 rfl) ?_
  refine gf_RX10_86 hx hb hown hE hP 0 rfl rfl dX10_setEnvelope_78 ?_
  refine lv_if_le (tgt := 86) hx hb dX10_setEnvelope_81 (by decide) (fun h => absurd h (by decide)) (fun _ => ?_)
  refine lv_iconst (v := 0) hx hb dX10_setEnvelope_84 (by decide) ?_
  exact x_zret hx hb hr rfl rfl hlocks hP hD hS hAe hsz (Nat.le_of_ble_eq_true rfl) (Nat.le_of_ble_eq_true rfl) (fun _ => 0) [0] (by decide) rfl dX10_setEnvelope_85

set_option maxHeartbeats 4000000 in
set_option maxRecDepth 100000 in
theorem c2102_X10_setEnvelope (l : Launch) (g : gG) (q1 : Nat) (x2 x3 x4 x5 x6 : Int32) (w15 w16 w17 w18 w19 w20 w21 w22 w23 w24 w25 w26 w27 w28 w29 w30 w31 w32 w33 w34 w35 w36 w37 w38 w39 w40 w41 w42 w43 w44 w45 w46 w47 w48 w49 w50 w51 : Value) (h7 : (0 : Int32) ≤ x3) (h8 : x3 ≤ 5000) (h9 : (0 : Int32) ≤ x4) (h10 : x4 ≤ 5000) (h11 : (0 : Int32) ≤ x5) (h12 : (100 : Int32) < x5) (h13 : (0 : Int32) ≤ x2) (h14 : (3 : Int32) < x2) (sz : Nat) : Met l yX10_setEnvelope [Cond.code yX10_setEnvelope cX10_setEnvelope 12 (some .int)] ({ frames := 2, cells := 0, slots := 0, locals := 42 } : Room) (va_Pc [.ref q1, .int x2, .int x3, .int x4, .int x5, .int x6] (PX g sz [(q1, .inr (12, [w15, w16, w17, w18, w19, w20, w21, w22, w23, w24, w25, w26, w27, w28, w29, w30, w31, w32, w33, w34, w35, w36, w37, w38, w39, w40, w41, w42, w43, w44, w45, w46, w47, w48, w49, w50, w51]))])) (QI g [(q1, .inr (12, [w15, w16, w17, w18, w19, w20, w21, w22, w23, w24, w25, w26, w27, w28, w29, w30, w31, w32, w33, w34, w35, w36, w37, w38, w39, w40, w41, w42, w43, w44, w45, w46, w47, w48, w49, w50, w51]))] sz 0 (fun _ => [(q1, .inr (12, [w15, w16, w17, w18, w19, w20, .int 1, w22, w23, w24, w25, w26, w27, w28, w29, w30, w31, w32, w33, w34, w35, w36, w37, w38, w39, w40, w41, w42, w43, w44, w45, w46, w47, w48, w49, w50, w51]))])) 0 0 (va_A [(q1, .inr (12, [w15, w16, w17, w18, w19, w20, w21, w22, w23, w24, w25, w26, w27, w28, w29, w30, w31, w32, w33, w34, w35, w36, w37, w38, w39, w40, w41, w42, w43, w44, w45, w46, w47, w48, w49, w50, w51]))] sz) := by
  refine ofN (by decide) (Nat.le_of_ble_eq_true rfl) rfl ?_
  intro p e s m args below meth c A ls hAe hsz hx hb hml hr hlocks hin hown hE hP hD hA hS hl
  have hown : s.vm.findClass RX10 = some m.cls := hown
  refine lv_iload_n hx hb dX10_setEnvelope_0 rfl (lv_at hl 2 rfl) ?_
  refine lv_iconst (v := 0) hx hb dX10_setEnvelope_1 (by decide) ?_
  refine lv_sipush (v := 5000) hx hb dX10_setEnvelope_2 (by decide) ?_
  refine g0_i (rS (rest := []) hx hb hml hown hE hP hD (c1843_X10_in l g x3 h7 h8 s.heap.size) (kS_X10_in hE (e1431 hE) rfl rfl ⟨(Nat.le_of_ble_eq_true rfl), (Nat.le_of_ble_eq_true rfl)⟩) [] rfl (by decide) rfl hl.1 rfl (lv_room (Nat.le_of_ble_eq_true rfl)) dX10_setEnvelope_5 ⟨(Nat.le_of_ble_eq_true rfl), (Nat.le_of_ble_eq_true rfl)⟩) hP hD hS hA (fun u9 H locs hP hS => ?_)
  refine lv_if_eq (tgt := 49) hx hb dX10_setEnvelope_8 (by decide) (fun h => absurd h (by decide)) (fun _ => ?_)
  refine lv_iload_n hx hb dX10_setEnvelope_11 rfl (lv_at hl 3 rfl) ?_
  refine lv_iconst (v := 0) hx hb dX10_setEnvelope_12 (by decide) ?_
  refine lv_sipush (v := 5000) hx hb dX10_setEnvelope_13 (by decide) ?_
  refine g0_i (rS (rest := []) hx hb hml hown hE hP hD (c1843_X10_in l g x4 h9 h10 H.size) (kS_X10_in hE (e1431 hE) rfl rfl ⟨(Nat.le_of_ble_eq_true rfl), (Nat.le_of_ble_eq_true rfl)⟩) [] rfl (by decide) rfl hl.1 rfl (lv_room (Nat.le_of_ble_eq_true rfl)) dX10_setEnvelope_16 ⟨(Nat.le_of_ble_eq_true rfl), (Nat.le_of_ble_eq_true rfl)⟩) hP hD hS hA (fun u9 H locs hP hS => ?_)
  refine lv_if_eq (tgt := 49) hx hb dX10_setEnvelope_19 (by decide) (fun h => absurd h (by decide)) (fun _ => ?_)
  refine lv_iload hx hb dX10_setEnvelope_22 (lv_at hl 4 rfl) ?_
  refine lv_iconst (v := 0) hx hb dX10_setEnvelope_24 (by decide) ?_
  refine lv_bipush (v := 100) hx hb dX10_setEnvelope_25 (by decide) ?_
  refine g0_i (rS (rest := []) hx hb hml hown hE hP hD (c1847_X10_in l g x5 h11 h12 H.size) (kS_X10_in hE (e1431 hE) rfl rfl ⟨(Nat.le_of_ble_eq_true rfl), (Nat.le_of_ble_eq_true rfl)⟩) [] rfl (by decide) rfl hl.1 rfl (lv_room (Nat.le_of_ble_eq_true rfl)) dX10_setEnvelope_27 ⟨(Nat.le_of_ble_eq_true rfl), (Nat.le_of_ble_eq_true rfl)⟩) hP hD hS hA (fun u9 H locs hP hS => ?_)
  refine lv_if_eq (tgt := 49) hx hb dX10_setEnvelope_30 (by decide) (fun _ => ?_) (fun h => absurd (by decide) h)
  refine lv_iconst (v := 0) hx hb dX10_setEnvelope_49 (by decide) ?_
  refine lv_istore (lv' := [(6, .int 0), (0, .ref q1), (1, .int x2), (2, .int x3), (3, .int x4), (4, .int x5), (5, .int x6)]) hx hb dX10_setEnvelope_50 hl (by decide) rfl (fun ls hl => ?_)
  refine lv_aload_n hx hb dX10_setEnvelope_52 rfl (lv_at hl 1 rfl) ?_
  refine lv_iload_n hx hb dX10_setEnvelope_53 rfl (lv_at hl 2 rfl) ?_
  refine g0_i (rS (rest := [.ref q1]) hx hb hml hown hE hP hD (c2096_X10_isInstrument l g x2 h13 h14 H.size) (kS_X10_isInstrument hE (e1645 hE) rfl rfl ⟨(Nat.le_of_ble_eq_true rfl), (Nat.le_of_ble_eq_true rfl)⟩) [] rfl (by decide) rfl hl.1 rfl (lv_room (Nat.le_of_ble_eq_true rfl)) dX10_setEnvelope_54 ⟨(Nat.le_of_ble_eq_true rfl), (Nat.le_of_ble_eq_true rfl)⟩) hP hD hS hA (fun u9 H locs hP hS => ?_)
  refine lv_if_ne (tgt := 64) hx hb dX10_setEnvelope_57 (by decide) (fun h => absurd h (by decide)) (fun _ => ?_)
  refine lv_iconst (v := 1) hx hb dX10_setEnvelope_60 (by decide) ?_
  refine lv_goto (tgt := 74) hx hb dX10_setEnvelope_61 (by decide) ?_
  refine pf_RX10_86 (ws' := [(q1, .inr (12, [w15, w16, w17, w18, w19, w20, .int 1, w22, w23, w24, w25, w26, w27, w28, w29, w30, w31, w32, w33, w34, w35, w36, w37, w38, w39, w40, w41, w42, w43, w44, w45, w46, w47, w48, w49, w50, w51]))]) hx hb hown hE hP hD hS 0 rfl rfl rfl (Nat.le_of_ble_eq_true rfl) dX10_setEnvelope_74 rfl (fun H locs hP hD hS => ?_)
  refine lv_aload_n hx hb dX10_setEnvelope_77 rfl (lv_at hl 1 rfl) ?_
  refine gf_RX10_86 hx hb hown hE hP 0 rfl rfl dX10_setEnvelope_78 ?_
  refine lv_if_le (tgt := 86) hx hb dX10_setEnvelope_81 (by decide) (fun h => absurd h (by decide)) (fun _ => ?_)
  refine lv_iconst (v := 0) hx hb dX10_setEnvelope_84 (by decide) ?_
  exact x_zret hx hb hr rfl rfl hlocks hP hD hS hAe hsz (Nat.le_of_ble_eq_true rfl) (Nat.le_of_ble_eq_true rfl) (fun _ => 0) [0] (by decide) rfl dX10_setEnvelope_85

set_option maxHeartbeats 4000000 in
set_option maxRecDepth 100000 in
theorem c2103_X10_setEnvelope (l : Launch) (g : gG) (q1 : Nat) (x2 x3 x4 x5 x6 : Int32) (w16 w17 w18 w19 w20 w21 w22 w23 w24 w25 w26 w27 w28 w29 w30 w31 w32 w33 w34 w35 w36 w37 w38 w39 w40 w41 w42 w43 w44 w45 w46 w47 w48 w49 w50 w51 w52 : Value) (h7 : (0 : Int32) ≤ x3) (h8 : x3 ≤ 5000) (h9 : (0 : Int32) ≤ x4) (h10 : x4 ≤ 5000) (h11 : (0 : Int32) ≤ x5) (h12 : x5 ≤ 100) (h13 : x6 < 0) (h14 : (0 : Int32) ≤ x2) (h15 : (3 : Int32) < x2) (sz : Nat) : Met l yX10_setEnvelope [Cond.code yX10_setEnvelope cX10_setEnvelope 12 (some .int)] ({ frames := 2, cells := 0, slots := 0, locals := 42 } : Room) (va_Pc [.ref q1, .int x2, .int x3, .int x4, .int x5, .int x6] (PX g sz [(q1, .inr (12, [w16, w17, w18, w19, w20, w21, w22, w23, w24, w25, w26, w27, w28, w29, w30, w31, w32, w33, w34, w35, w36, w37, w38, w39, w40, w41, w42, w43, w44, w45, w46, w47, w48, w49, w50, w51, w52]))])) (QI g [(q1, .inr (12, [w16, w17, w18, w19, w20, w21, w22, w23, w24, w25, w26, w27, w28, w29, w30, w31, w32, w33, w34, w35, w36, w37, w38, w39, w40, w41, w42, w43, w44, w45, w46, w47, w48, w49, w50, w51, w52]))] sz 0 (fun _ => [(q1, .inr (12, [w16, w17, w18, w19, w20, w21, .int 1, w23, w24, w25, w26, w27, w28, w29, w30, w31, w32, w33, w34, w35, w36, w37, w38, w39, w40, w41, w42, w43, w44, w45, w46, w47, w48, w49, w50, w51, w52]))])) 0 0 (va_A [(q1, .inr (12, [w16, w17, w18, w19, w20, w21, w22, w23, w24, w25, w26, w27, w28, w29, w30, w31, w32, w33, w34, w35, w36, w37, w38, w39, w40, w41, w42, w43, w44, w45, w46, w47, w48, w49, w50, w51, w52]))] sz) := by
  refine ofN (by decide) (Nat.le_of_ble_eq_true rfl) rfl ?_
  intro p e s m args below meth c A ls hAe hsz hx hb hml hr hlocks hin hown hE hP hD hA hS hl
  have hown : s.vm.findClass RX10 = some m.cls := hown
  refine lv_iload_n hx hb dX10_setEnvelope_0 rfl (lv_at hl 2 rfl) ?_
  refine lv_iconst (v := 0) hx hb dX10_setEnvelope_1 (by decide) ?_
  refine lv_sipush (v := 5000) hx hb dX10_setEnvelope_2 (by decide) ?_
  refine g0_i (rS (rest := []) hx hb hml hown hE hP hD (c1843_X10_in l g x3 h7 h8 s.heap.size) (kS_X10_in hE (e1431 hE) rfl rfl ⟨(Nat.le_of_ble_eq_true rfl), (Nat.le_of_ble_eq_true rfl)⟩) [] rfl (by decide) rfl hl.1 rfl (lv_room (Nat.le_of_ble_eq_true rfl)) dX10_setEnvelope_5 ⟨(Nat.le_of_ble_eq_true rfl), (Nat.le_of_ble_eq_true rfl)⟩) hP hD hS hA (fun u9 H locs hP hS => ?_)
  refine lv_if_eq (tgt := 49) hx hb dX10_setEnvelope_8 (by decide) (fun h => absurd h (by decide)) (fun _ => ?_)
  refine lv_iload_n hx hb dX10_setEnvelope_11 rfl (lv_at hl 3 rfl) ?_
  refine lv_iconst (v := 0) hx hb dX10_setEnvelope_12 (by decide) ?_
  refine lv_sipush (v := 5000) hx hb dX10_setEnvelope_13 (by decide) ?_
  refine g0_i (rS (rest := []) hx hb hml hown hE hP hD (c1843_X10_in l g x4 h9 h10 H.size) (kS_X10_in hE (e1431 hE) rfl rfl ⟨(Nat.le_of_ble_eq_true rfl), (Nat.le_of_ble_eq_true rfl)⟩) [] rfl (by decide) rfl hl.1 rfl (lv_room (Nat.le_of_ble_eq_true rfl)) dX10_setEnvelope_16 ⟨(Nat.le_of_ble_eq_true rfl), (Nat.le_of_ble_eq_true rfl)⟩) hP hD hS hA (fun u9 H locs hP hS => ?_)
  refine lv_if_eq (tgt := 49) hx hb dX10_setEnvelope_19 (by decide) (fun h => absurd h (by decide)) (fun _ => ?_)
  refine lv_iload hx hb dX10_setEnvelope_22 (lv_at hl 4 rfl) ?_
  refine lv_iconst (v := 0) hx hb dX10_setEnvelope_24 (by decide) ?_
  refine lv_bipush (v := 100) hx hb dX10_setEnvelope_25 (by decide) ?_
  refine g0_i (rS (rest := []) hx hb hml hown hE hP hD (c1849_X10_in l g x5 h11 h12 H.size) (kS_X10_in hE (e1431 hE) rfl rfl ⟨(Nat.le_of_ble_eq_true rfl), (Nat.le_of_ble_eq_true rfl)⟩) [] rfl (by decide) rfl hl.1 rfl (lv_room (Nat.le_of_ble_eq_true rfl)) dX10_setEnvelope_27 ⟨(Nat.le_of_ble_eq_true rfl), (Nat.le_of_ble_eq_true rfl)⟩) hP hD hS hA (fun u9 H locs hP hS => ?_)
  refine lv_if_eq (tgt := 49) hx hb dX10_setEnvelope_30 (by decide) (fun h => absurd h (by decide)) (fun _ => ?_)
  refine lv_iload hx hb dX10_setEnvelope_33 (lv_at hl 5 rfl) ?_
  refine lv_iconst (v := 0) hx hb dX10_setEnvelope_35 (by decide) ?_
  refine lv_sipush (v := 5000) hx hb dX10_setEnvelope_36 (by decide) ?_
  refine g0_i (rS (rest := []) hx hb hml hown hE hP hD (c642_X10_in l g x6 5000 h13 H.size) (kS_X10_in hE (e1431 hE) rfl rfl ⟨(Nat.le_of_ble_eq_true rfl), (Nat.le_of_ble_eq_true rfl)⟩) [] rfl (by decide) rfl hl.1 rfl (lv_room (Nat.le_of_ble_eq_true rfl)) dX10_setEnvelope_39 ⟨(Nat.le_of_ble_eq_true rfl), (Nat.le_of_ble_eq_true rfl)⟩) hP hD hS hA (fun u9 H locs hP hS => ?_)
  refine lv_if_eq (tgt := 49) hx hb dX10_setEnvelope_42 (by decide) (fun _ => ?_) (fun h => absurd (by decide) h)
  refine lv_iconst (v := 0) hx hb dX10_setEnvelope_49 (by decide) ?_
  refine lv_istore (lv' := [(6, .int 0), (0, .ref q1), (1, .int x2), (2, .int x3), (3, .int x4), (4, .int x5), (5, .int x6)]) hx hb dX10_setEnvelope_50 hl (by decide) rfl (fun ls hl => ?_)
  refine lv_aload_n hx hb dX10_setEnvelope_52 rfl (lv_at hl 1 rfl) ?_
  refine lv_iload_n hx hb dX10_setEnvelope_53 rfl (lv_at hl 2 rfl) ?_
  refine g0_i (rS (rest := [.ref q1]) hx hb hml hown hE hP hD (c2096_X10_isInstrument l g x2 h14 h15 H.size) (kS_X10_isInstrument hE (e1645 hE) rfl rfl ⟨(Nat.le_of_ble_eq_true rfl), (Nat.le_of_ble_eq_true rfl)⟩) [] rfl (by decide) rfl hl.1 rfl (lv_room (Nat.le_of_ble_eq_true rfl)) dX10_setEnvelope_54 ⟨(Nat.le_of_ble_eq_true rfl), (Nat.le_of_ble_eq_true rfl)⟩) hP hD hS hA (fun u9 H locs hP hS => ?_)
  refine lv_if_ne (tgt := 64) hx hb dX10_setEnvelope_57 (by decide) (fun h => absurd h (by decide)) (fun _ => ?_)
  refine lv_iconst (v := 1) hx hb dX10_setEnvelope_60 (by decide) ?_
  refine lv_goto (tgt := 74) hx hb dX10_setEnvelope_61 (by decide) ?_
  refine pf_RX10_86 (ws' := [(q1, .inr (12, [w16, w17, w18, w19, w20, w21, .int 1, w23, w24, w25, w26, w27, w28, w29, w30, w31, w32, w33, w34, w35, w36, w37, w38, w39, w40, w41, w42, w43, w44, w45, w46, w47, w48, w49, w50, w51, w52]))]) hx hb hown hE hP hD hS 0 rfl rfl rfl (Nat.le_of_ble_eq_true rfl) dX10_setEnvelope_74 rfl (fun H locs hP hD hS => ?_)
  refine lv_aload_n hx hb dX10_setEnvelope_77 rfl (lv_at hl 1 rfl) ?_
  refine gf_RX10_86 hx hb hown hE hP 0 rfl rfl dX10_setEnvelope_78 ?_
  refine lv_if_le (tgt := 86) hx hb dX10_setEnvelope_81 (by decide) (fun h => absurd h (by decide)) (fun _ => ?_)
  refine lv_iconst (v := 0) hx hb dX10_setEnvelope_84 (by decide) ?_
  exact x_zret hx hb hr rfl rfl hlocks hP hD hS hAe hsz (Nat.le_of_ble_eq_true rfl) (Nat.le_of_ble_eq_true rfl) (fun _ => 0) [0] (by decide) rfl dX10_setEnvelope_85

set_option maxHeartbeats 4000000 in
set_option maxRecDepth 100000 in
theorem c2104_X10_setEnvelope (l : Launch) (g : gG) (q1 : Nat) (x2 x3 x4 x5 x6 : Int32) (w17 w18 w19 w20 w21 w22 w23 w24 w25 w26 w27 w28 w29 w30 w31 w32 w33 w34 w35 w36 w37 w38 w39 w40 w41 w42 w43 w44 w45 w46 w47 w48 w49 w50 w51 w52 w53 : Value) (h7 : (0 : Int32) ≤ x3) (h8 : x3 ≤ 5000) (h9 : (0 : Int32) ≤ x4) (h10 : x4 ≤ 5000) (h11 : (0 : Int32) ≤ x5) (h12 : x5 ≤ 100) (h13 : (0 : Int32) ≤ x6) (h14 : (5000 : Int32) < x6) (h15 : (0 : Int32) ≤ x2) (h16 : (3 : Int32) < x2) (sz : Nat) : Met l yX10_setEnvelope [Cond.code yX10_setEnvelope cX10_setEnvelope 12 (some .int)] ({ frames := 2, cells := 0, slots := 0, locals := 42 } : Room) (va_Pc [.ref q1, .int x2, .int x3, .int x4, .int x5, .int x6] (PX g sz [(q1, .inr (12, [w17, w18, w19, w20, w21, w22, w23, w24, w25, w26, w27, w28, w29, w30, w31, w32, w33, w34, w35, w36, w37, w38, w39, w40, w41, w42, w43, w44, w45, w46, w47, w48, w49, w50, w51, w52, w53]))])) (QI g [(q1, .inr (12, [w17, w18, w19, w20, w21, w22, w23, w24, w25, w26, w27, w28, w29, w30, w31, w32, w33, w34, w35, w36, w37, w38, w39, w40, w41, w42, w43, w44, w45, w46, w47, w48, w49, w50, w51, w52, w53]))] sz 0 (fun _ => [(q1, .inr (12, [w17, w18, w19, w20, w21, w22, .int 1, w24, w25, w26, w27, w28, w29, w30, w31, w32, w33, w34, w35, w36, w37, w38, w39, w40, w41, w42, w43, w44, w45, w46, w47, w48, w49, w50, w51, w52, w53]))])) 0 0 (va_A [(q1, .inr (12, [w17, w18, w19, w20, w21, w22, w23, w24, w25, w26, w27, w28, w29, w30, w31, w32, w33, w34, w35, w36, w37, w38, w39, w40, w41, w42, w43, w44, w45, w46, w47, w48, w49, w50, w51, w52, w53]))] sz) := by
  refine ofN (by decide) (Nat.le_of_ble_eq_true rfl) rfl ?_
  intro p e s m args below meth c A ls hAe hsz hx hb hml hr hlocks hin hown hE hP hD hA hS hl
  have hown : s.vm.findClass RX10 = some m.cls := hown
  refine lv_iload_n hx hb dX10_setEnvelope_0 rfl (lv_at hl 2 rfl) ?_
  refine lv_iconst (v := 0) hx hb dX10_setEnvelope_1 (by decide) ?_
  refine lv_sipush (v := 5000) hx hb dX10_setEnvelope_2 (by decide) ?_
  refine g0_i (rS (rest := []) hx hb hml hown hE hP hD (c1843_X10_in l g x3 h7 h8 s.heap.size) (kS_X10_in hE (e1431 hE) rfl rfl ⟨(Nat.le_of_ble_eq_true rfl), (Nat.le_of_ble_eq_true rfl)⟩) [] rfl (by decide) rfl hl.1 rfl (lv_room (Nat.le_of_ble_eq_true rfl)) dX10_setEnvelope_5 ⟨(Nat.le_of_ble_eq_true rfl), (Nat.le_of_ble_eq_true rfl)⟩) hP hD hS hA (fun u9 H locs hP hS => ?_)
  refine lv_if_eq (tgt := 49) hx hb dX10_setEnvelope_8 (by decide) (fun h => absurd h (by decide)) (fun _ => ?_)
  refine lv_iload_n hx hb dX10_setEnvelope_11 rfl (lv_at hl 3 rfl) ?_
  refine lv_iconst (v := 0) hx hb dX10_setEnvelope_12 (by decide) ?_
  refine lv_sipush (v := 5000) hx hb dX10_setEnvelope_13 (by decide) ?_
  refine g0_i (rS (rest := []) hx hb hml hown hE hP hD (c1843_X10_in l g x4 h9 h10 H.size) (kS_X10_in hE (e1431 hE) rfl rfl ⟨(Nat.le_of_ble_eq_true rfl), (Nat.le_of_ble_eq_true rfl)⟩) [] rfl (by decide) rfl hl.1 rfl (lv_room (Nat.le_of_ble_eq_true rfl)) dX10_setEnvelope_16 ⟨(Nat.le_of_ble_eq_true rfl), (Nat.le_of_ble_eq_true rfl)⟩) hP hD hS hA (fun u9 H locs hP hS => ?_)
  refine lv_if_eq (tgt := 49) hx hb dX10_setEnvelope_19 (by decide) (fun h => absurd h (by decide)) (fun _ => ?_)
  refine lv_iload hx hb dX10_setEnvelope_22 (lv_at hl 4 rfl) ?_
  refine lv_iconst (v := 0) hx hb dX10_setEnvelope_24 (by decide) ?_
  refine lv_bipush (v := 100) hx hb dX10_setEnvelope_25 (by decide) ?_
  refine g0_i (rS (rest := []) hx hb hml hown hE hP hD (c1849_X10_in l g x5 h11 h12 H.size) (kS_X10_in hE (e1431 hE) rfl rfl ⟨(Nat.le_of_ble_eq_true rfl), (Nat.le_of_ble_eq_true rfl)⟩) [] rfl (by decide) rfl hl.1 rfl (lv_room (Nat.le_of_ble_eq_true rfl)) dX10_setEnvelope_27 ⟨(Nat.le_of_ble_eq_true rfl), (Nat.le_of_ble_eq_true rfl)⟩) hP hD hS hA (fun u9 H locs hP hS => ?_)
  refine lv_if_eq (tgt := 49) hx hb dX10_setEnvelope_30 (by decide) (fun h => absurd h (by decide)) (fun _ => ?_)
  refine lv_iload hx hb dX10_setEnvelope_33 (lv_at hl 5 rfl) ?_
  refine lv_iconst (v := 0) hx hb dX10_setEnvelope_35 (by decide) ?_
  refine lv_sipush (v := 5000) hx hb dX10_setEnvelope_36 (by decide) ?_
  refine g0_i (rS (rest := []) hx hb hml hown hE hP hD (c1841_X10_in l g x6 h13 h14 H.size) (kS_X10_in hE (e1431 hE) rfl rfl ⟨(Nat.le_of_ble_eq_true rfl), (Nat.le_of_ble_eq_true rfl)⟩) [] rfl (by decide) rfl hl.1 rfl (lv_room (Nat.le_of_ble_eq_true rfl)) dX10_setEnvelope_39 ⟨(Nat.le_of_ble_eq_true rfl), (Nat.le_of_ble_eq_true rfl)⟩) hP hD hS hA (fun u9 H locs hP hS => ?_)
  refine lv_if_eq (tgt := 49) hx hb dX10_setEnvelope_42 (by decide) (fun _ => ?_) (fun h => absurd (by decide) h)
  refine lv_iconst (v := 0) hx hb dX10_setEnvelope_49 (by decide) ?_
  refine lv_istore (lv' := [(6, .int 0), (0, .ref q1), (1, .int x2), (2, .int x3), (3, .int x4), (4, .int x5), (5, .int x6)]) hx hb dX10_setEnvelope_50 hl (by decide) rfl (fun ls hl => ?_)
  refine lv_aload_n hx hb dX10_setEnvelope_52 rfl (lv_at hl 1 rfl) ?_
  refine lv_iload_n hx hb dX10_setEnvelope_53 rfl (lv_at hl 2 rfl) ?_
  refine g0_i (rS (rest := [.ref q1]) hx hb hml hown hE hP hD (c2096_X10_isInstrument l g x2 h15 h16 H.size) (kS_X10_isInstrument hE (e1645 hE) rfl rfl ⟨(Nat.le_of_ble_eq_true rfl), (Nat.le_of_ble_eq_true rfl)⟩) [] rfl (by decide) rfl hl.1 rfl (lv_room (Nat.le_of_ble_eq_true rfl)) dX10_setEnvelope_54 ⟨(Nat.le_of_ble_eq_true rfl), (Nat.le_of_ble_eq_true rfl)⟩) hP hD hS hA (fun u9 H locs hP hS => ?_)
  refine lv_if_ne (tgt := 64) hx hb dX10_setEnvelope_57 (by decide) (fun h => absurd h (by decide)) (fun _ => ?_)
  refine lv_iconst (v := 1) hx hb dX10_setEnvelope_60 (by decide) ?_
  refine lv_goto (tgt := 74) hx hb dX10_setEnvelope_61 (by decide) ?_
  refine pf_RX10_86 (ws' := [(q1, .inr (12, [w17, w18, w19, w20, w21, w22, .int 1, w24, w25, w26, w27, w28, w29, w30, w31, w32, w33, w34, w35, w36, w37, w38, w39, w40, w41, w42, w43, w44, w45, w46, w47, w48, w49, w50, w51, w52, w53]))]) hx hb hown hE hP hD hS 0 rfl rfl rfl (Nat.le_of_ble_eq_true rfl) dX10_setEnvelope_74 rfl (fun H locs hP hD hS => ?_)
  refine lv_aload_n hx hb dX10_setEnvelope_77 rfl (lv_at hl 1 rfl) ?_
  refine gf_RX10_86 hx hb hown hE hP 0 rfl rfl dX10_setEnvelope_78 ?_
  refine lv_if_le (tgt := 86) hx hb dX10_setEnvelope_81 (by decide) (fun h => absurd h (by decide)) (fun _ => ?_)
  refine lv_iconst (v := 0) hx hb dX10_setEnvelope_84 (by decide) ?_
  exact x_zret hx hb hr rfl rfl hlocks hP hD hS hAe hsz (Nat.le_of_ble_eq_true rfl) (Nat.le_of_ble_eq_true rfl) (fun _ => 0) [0] (by decide) rfl dX10_setEnvelope_85

set_option maxHeartbeats 4000000 in
set_option maxRecDepth 100000 in
theorem c2105_X10_setEnvelope (l : Launch) (g : gG) (q1 : Nat) (x2 x3 x4 x5 x6 : Int32) (w17 w18 w19 w20 w21 w22 w23 w24 w25 w26 w27 w28 w29 w30 w31 w32 w33 w34 w35 w36 w37 w38 w39 w40 w41 w42 w43 w44 w45 w46 w47 w48 w49 w50 w51 w52 w53 : Value) (h7 : (0 : Int32) ≤ x3) (h8 : x3 ≤ 5000) (h9 : (0 : Int32) ≤ x4) (h10 : x4 ≤ 5000) (h11 : (0 : Int32) ≤ x5) (h12 : x5 ≤ 100) (h13 : (0 : Int32) ≤ x6) (h14 : x6 ≤ 5000) (h15 : (0 : Int32) ≤ x2) (h16 : (3 : Int32) < x2) (sz : Nat) : Met l yX10_setEnvelope [Cond.code yX10_setEnvelope cX10_setEnvelope 12 (some .int)] ({ frames := 2, cells := 0, slots := 0, locals := 42 } : Room) (va_Pc [.ref q1, .int x2, .int x3, .int x4, .int x5, .int x6] (PX g sz [(q1, .inr (12, [w17, w18, w19, w20, w21, w22, w23, w24, w25, w26, w27, w28, w29, w30, w31, w32, w33, w34, w35, w36, w37, w38, w39, w40, w41, w42, w43, w44, w45, w46, w47, w48, w49, w50, w51, w52, w53]))])) (QI g [(q1, .inr (12, [w17, w18, w19, w20, w21, w22, w23, w24, w25, w26, w27, w28, w29, w30, w31, w32, w33, w34, w35, w36, w37, w38, w39, w40, w41, w42, w43, w44, w45, w46, w47, w48, w49, w50, w51, w52, w53]))] sz 0 (fun _ => [(q1, .inr (12, [w17, w18, w19, w20, w21, w22, .int 1, w24, w25, w26, w27, w28, w29, w30, w31, w32, w33, w34, w35, w36, w37, w38, w39, w40, w41, w42, w43, w44, w45, w46, w47, w48, w49, w50, w51, w52, w53]))])) 0 0 (va_A [(q1, .inr (12, [w17, w18, w19, w20, w21, w22, w23, w24, w25, w26, w27, w28, w29, w30, w31, w32, w33, w34, w35, w36, w37, w38, w39, w40, w41, w42, w43, w44, w45, w46, w47, w48, w49, w50, w51, w52, w53]))] sz) := by
  refine ofN (by decide) (Nat.le_of_ble_eq_true rfl) rfl ?_
  intro p e s m args below meth c A ls hAe hsz hx hb hml hr hlocks hin hown hE hP hD hA hS hl
  have hown : s.vm.findClass RX10 = some m.cls := hown
  refine lv_iload_n hx hb dX10_setEnvelope_0 rfl (lv_at hl 2 rfl) ?_
  refine lv_iconst (v := 0) hx hb dX10_setEnvelope_1 (by decide) ?_
  refine lv_sipush (v := 5000) hx hb dX10_setEnvelope_2 (by decide) ?_
  refine g0_i (rS (rest := []) hx hb hml hown hE hP hD (c1843_X10_in l g x3 h7 h8 s.heap.size) (kS_X10_in hE (e1431 hE) rfl rfl ⟨(Nat.le_of_ble_eq_true rfl), (Nat.le_of_ble_eq_true rfl)⟩) [] rfl (by decide) rfl hl.1 rfl (lv_room (Nat.le_of_ble_eq_true rfl)) dX10_setEnvelope_5 ⟨(Nat.le_of_ble_eq_true rfl), (Nat.le_of_ble_eq_true rfl)⟩) hP hD hS hA (fun u9 H locs hP hS => ?_)
  refine lv_if_eq (tgt := 49) hx hb dX10_setEnvelope_8 (by decide) (fun h => absurd h (by decide)) (fun _ => ?_)
  refine lv_iload_n hx hb dX10_setEnvelope_11 rfl (lv_at hl 3 rfl) ?_
  refine lv_iconst (v := 0) hx hb dX10_setEnvelope_12 (by decide) ?_
  refine lv_sipush (v := 5000) hx hb dX10_setEnvelope_13 (by decide) ?_
  refine g0_i (rS (rest := []) hx hb hml hown hE hP hD (c1843_X10_in l g x4 h9 h10 H.size) (kS_X10_in hE (e1431 hE) rfl rfl ⟨(Nat.le_of_ble_eq_true rfl), (Nat.le_of_ble_eq_true rfl)⟩) [] rfl (by decide) rfl hl.1 rfl (lv_room (Nat.le_of_ble_eq_true rfl)) dX10_setEnvelope_16 ⟨(Nat.le_of_ble_eq_true rfl), (Nat.le_of_ble_eq_true rfl)⟩) hP hD hS hA (fun u9 H locs hP hS => ?_)
  refine lv_if_eq (tgt := 49) hx hb dX10_setEnvelope_19 (by decide) (fun h => absurd h (by decide)) (fun _ => ?_)
  refine lv_iload hx hb dX10_setEnvelope_22 (lv_at hl 4 rfl) ?_
  refine lv_iconst (v := 0) hx hb dX10_setEnvelope_24 (by decide) ?_
  refine lv_bipush (v := 100) hx hb dX10_setEnvelope_25 (by decide) ?_
  refine g0_i (rS (rest := []) hx hb hml hown hE hP hD (c1849_X10_in l g x5 h11 h12 H.size) (kS_X10_in hE (e1431 hE) rfl rfl ⟨(Nat.le_of_ble_eq_true rfl), (Nat.le_of_ble_eq_true rfl)⟩) [] rfl (by decide) rfl hl.1 rfl (lv_room (Nat.le_of_ble_eq_true rfl)) dX10_setEnvelope_27 ⟨(Nat.le_of_ble_eq_true rfl), (Nat.le_of_ble_eq_true rfl)⟩) hP hD hS hA (fun u9 H locs hP hS => ?_)
  refine lv_if_eq (tgt := 49) hx hb dX10_setEnvelope_30 (by decide) (fun h => absurd h (by decide)) (fun _ => ?_)
  refine lv_iload hx hb dX10_setEnvelope_33 (lv_at hl 5 rfl) ?_
  refine lv_iconst (v := 0) hx hb dX10_setEnvelope_35 (by decide) ?_
  refine lv_sipush (v := 5000) hx hb dX10_setEnvelope_36 (by decide) ?_
  refine g0_i (rS (rest := []) hx hb hml hown hE hP hD (c1843_X10_in l g x6 h13 h14 H.size) (kS_X10_in hE (e1431 hE) rfl rfl ⟨(Nat.le_of_ble_eq_true rfl), (Nat.le_of_ble_eq_true rfl)⟩) [] rfl (by decide) rfl hl.1 rfl (lv_room (Nat.le_of_ble_eq_true rfl)) dX10_setEnvelope_39 ⟨(Nat.le_of_ble_eq_true rfl), (Nat.le_of_ble_eq_true rfl)⟩) hP hD hS hA (fun u9 H locs hP hS => ?_)
  refine lv_if_eq (tgt := 49) hx hb dX10_setEnvelope_42 (by decide) (fun h => absurd h (by decide)) (fun _ => ?_)
  refine lv_iconst (v := 1) hx hb dX10_setEnvelope_45 (by decide) ?_
  refine lv_goto (tgt := 50) hx hb dX10_setEnvelope_46 (by decide) ?_
  refine lv_istore (lv' := [(6, .int 1), (0, .ref q1), (1, .int x2), (2, .int x3), (3, .int x4), (4, .int x5), (5, .int x6)]) hx hb dX10_setEnvelope_50 hl (by decide) rfl (fun ls hl => ?_)
  refine lv_aload_n hx hb dX10_setEnvelope_52 rfl (lv_at hl 1 rfl) ?_
  refine lv_iload_n hx hb dX10_setEnvelope_53 rfl (lv_at hl 2 rfl) ?_
  refine g0_i (rS (rest := [.ref q1]) hx hb hml hown hE hP hD (c2096_X10_isInstrument l g x2 h15 h16 H.size) (kS_X10_isInstrument hE (e1645 hE) rfl rfl ⟨(Nat.le_of_ble_eq_true rfl), (Nat.le_of_ble_eq_true rfl)⟩) [] rfl (by decide) rfl hl.1 rfl (lv_room (Nat.le_of_ble_eq_true rfl)) dX10_setEnvelope_54 ⟨(Nat.le_of_ble_eq_true rfl), (Nat.le_of_ble_eq_true rfl)⟩) hP hD hS hA (fun u9 H locs hP hS => ?_)
  refine lv_if_ne (tgt := 64) hx hb dX10_setEnvelope_57 (by decide) (fun h => absurd h (by decide)) (fun _ => ?_)
  refine lv_iconst (v := 1) hx hb dX10_setEnvelope_60 (by decide) ?_
  refine lv_goto (tgt := 74) hx hb dX10_setEnvelope_61 (by decide) ?_
  refine pf_RX10_86 (ws' := [(q1, .inr (12, [w17, w18, w19, w20, w21, w22, .int 1, w24, w25, w26, w27, w28, w29, w30, w31, w32, w33, w34, w35, w36, w37, w38, w39, w40, w41, w42, w43, w44, w45, w46, w47, w48, w49, w50, w51, w52, w53]))]) hx hb hown hE hP hD hS 0 rfl rfl rfl (Nat.le_of_ble_eq_true rfl) dX10_setEnvelope_74 rfl (fun H locs hP hD hS => ?_)
  refine lv_aload_n hx hb dX10_setEnvelope_77 rfl (lv_at hl 1 rfl) ?_
  refine gf_RX10_86 hx hb hown hE hP 0 rfl rfl dX10_setEnvelope_78 ?_
  refine lv_if_le (tgt := 86) hx hb dX10_setEnvelope_81 (by decide) (fun h => absurd h (by decide)) (fun _ => ?_)
  refine lv_iconst (v := 0) hx hb dX10_setEnvelope_84 (by decide) ?_
  exact x_zret hx hb hr rfl rfl hlocks hP hD hS hAe hsz (Nat.le_of_ble_eq_true rfl) (Nat.le_of_ble_eq_true rfl) (fun _ => 0) [0] (by decide) rfl dX10_setEnvelope_85

set_option maxHeartbeats 4000000 in
set_option maxRecDepth 100000 in
theorem c2106_X9_setPriority (l : Launch) (g : gG) (hlx : l.stackTraces = false) (q1 : Nat) (x2 x3 : Int32) (h4 : x2 < 0) (sz : Nat) : vx_Met l yX9_setPriority [Cond.code yX9_setPriority cX9_setPriority 5 (some .int)] ({ frames := 8, cells := 1, slots := 6, locals := 141 } : Room) (va_Pc [.ref q1, .int x2, .int x3] (PZ g sz [])) NI (XW g [] sz "java/lang/IndexOutOfBoundsException" []) 1 6 (va_A [] sz) := by
  refine ofX (by decide) (Nat.le_of_ble_eq_true rfl) rfl ?_
  intro p e s m args below meth c A ls hAe hsz hx hb hml hr hlocks hin hown hE hP hD hA hS hl hex hz
  have hown : s.vm.findClass RX9 = some m.cls := hown
  refine lv_iload_n hx hb dX9_setPriority_0 rfl (lv_at hl 1 rfl) ?_
  refine gx_v (wr := []) (rSx (rest := []) hx hb hml hown hE hP hD hS hA hz (c1836_X9_requireInstrument l g hlx x2 h4 s.heap.size) (kS_X9_requireInstrument hE (e991 hE) rfl rfl ⟨(Nat.le_of_ble_eq_true rfl), (Nat.le_of_ble_eq_true rfl)⟩) [] rfl (by decide) rfl hl.1 rfl (lv_room (Nat.le_of_ble_eq_true rfl)) dX9_setPriority_1 ⟨(Nat.le_of_ble_eq_true rfl), (Nat.le_of_ble_eq_true rfl)⟩) hP hD hS hA [] [] rfl rfl (by decide) (by decide) (fun ce9 q9 H locs hP hD hS hq1 hq2 hq3 => ?_)
  exact x_out hex hlocks hq1 hq2 hq3 hP hD hS hAe hsz (Nat.le_of_ble_eq_true rfl) (Nat.le_of_ble_eq_true rfl) [] (by decide) rfl

set_option maxHeartbeats 4000000 in
set_option maxRecDepth 100000 in
theorem c2107_L_setPriority (l : Launch) (g : gG) (hlx : l.stackTraces = false) (q1 q4 : Nat) (x2 x3 : Int32) (w6 w7 w8 w9 w10 w11 w12 w13 w14 w15 w16 : Value) (h5 : x2 < 0) (sz : Nat) : Met l yL_setPriority [Cond.codeWith yL_setPriority cL_setPriority 5 (some .int) [(0, 10, 13, 13), (0, 10, 17, 15)]] ({ frames := 9, cells := 1, slots := 6, locals := 165 } : Room) (va_Pc [.ref q1, .int x2, .int x3, .ref q4] (PZ g sz [(q1, .inr (11, [w6, w7, w8, w9, w10, w11, w12, w13, w14, w15, w16]))])) (QI g [(q1, .inr (11, [w6, w7, w8, w9, w10, w11, w12, w13, w14, w15, w16]))] sz 1 (fun _ => [])) 1 6 (va_A [(q1, .inr (11, [w6, w7, w8, w9, w10, w11, w12, w13, w14, w15, w16]))] sz) := by
  refine ofH (by decide) (Nat.le_of_ble_eq_true rfl) rfl ?_
  intro p e s m args below meth c A ls hAe hsz hx hb hml hr hlocks hin hown hE hP hD hA hS hl htb hz
  have hown : s.vm.findClass RL = some m.cls := hown
  refine lv_aload_n hx hb dL_setPriority_0 rfl (lv_at hl 3 rfl) ?_
  refine lv_iconst (v := 0) hx hb dL_setPriority_1 (by decide) ?_
  refine lv_aload_n hx hb dL_setPriority_2 rfl (lv_at hl 0 rfl) ?_
  refine lv_iload_n hx hb dL_setPriority_3 rfl (lv_at hl 1 rfl) ?_
  refine lv_iload_n hx hb dL_setPriority_4 rfl (lv_at hl 2 rfl) ?_
  refine gx_i (wr := [(q1, .inr (11, [w6, w7, w8, w9, w10, w11, w12, w13, w14, w15, w16]))]) (rVx (rest := [.int 0, .ref q4]) hx hb hml hown hE hP hD hS hA hz 0 rfl rfl (c2106_X9_setPriority l g hlx q1 x2 x3 h5 s.heap.size) (kV_X9_setPriority hE (e1006 hE) rfl rfl ⟨(Nat.le_of_ble_eq_true rfl), (Nat.le_of_ble_eq_true rfl)⟩) [] rfl (by decide) rfl hl.1 rfl (lv_room (Nat.le_of_ble_eq_true rfl)) dL_setPriority_5 ⟨(Nat.le_of_ble_eq_true rfl), (Nat.le_of_ble_eq_true rfl)⟩) hP hD hS hA [] [0] rfl rfl (by decide) (by decide) (fun ce9 q9 H locs hP hD hS hq1 hq2 hq3 => ?_)
  have hP : va_P g.1 vwCl [(q1, .inr (11, [w6, w7, w8, w9, w10, w11, w12, w13, w14, w15, w16]))] H := hP
  have hD : va_D A [(q1, .inr (11, [w6, w7, w8, w9, w10, w11, w12, w13, w14, w15, w16]))] := hD
  refine x_catch (name := "java/lang/IndexOutOfBoundsException") (hh := [(0, 10, 13, 13), (0, 10, 17, 15)]) (tgt := 13) hown htb [] ⟨0, 10, 13, 13⟩ [⟨0, 10, 17, 15⟩] rfl (fun _ h => nomatch h) rfl (by decide) (e532 hE) (e625 hE) hq1 hq2 hq3 rfl ?_
  refine lv_astore (lv' := [(4, .ref q9), (0, .ref q1), (1, .int x2), (2, .int x3), (3, .ref q4)]) hx hb dL_setPriority_13 hl (by decide) rfl (fun ls hl => ?_)
  refine lv_iconst (v := 1) hx hb dL_setPriority_15 (by decide) ?_
  exact x_zret hx hb hr rfl rfl hlocks hP hD hS hAe hsz (Nat.le_of_ble_eq_true rfl) (Nat.le_of_ble_eq_true rfl) (fun _ => 0) [] (by decide) rfl dL_setPriority_16

set_option maxHeartbeats 4000000 in
set_option maxRecDepth 100000 in
theorem c2108_X10_setPriority (l : Launch) (g : gG) (q1 : Nat) (x2 x3 : Int32) (w4 w5 w6 w7 w8 w9 w10 w11 w12 w13 w14 w15 w16 w17 w18 w19 w20 w21 w22 w23 w24 w25 w26 w27 w28 w29 w30 w31 w32 w33 w34 w35 w36 w37 w38 w39 w40 : Value) (h41 : x2 < 0) (sz : Nat) : Met l yX10_setPriority [Cond.code yX10_setPriority cX10_setPriority 3 (some .int)] ({ frames := 2, cells := 0, slots := 0, locals := 42 } : Room) (va_Pc [.ref q1, .int x2, .int x3] (PX g sz [(q1, .inr (12, [w4, w5, w6, w7, w8, w9, w10, w11, w12, w13, w14, w15, w16, w17, w18, w19, w20, w21, w22, w23, w24, w25, w26, w27, w28, w29, w30, w31, w32, w33, w34, w35, w36, w37, w38, w39, w40]))])) (QI g [(q1, .inr (12, [w4, w5, w6, w7, w8, w9, w10, w11, w12, w13, w14, w15, w16, w17, w18, w19, w20, w21, w22, w23, w24, w25, w26, w27, w28, w29, w30, w31, w32, w33, w34, w35, w36, w37, w38, w39, w40]))] sz 0 (fun _ => [(q1, .inr (12, [w4, w5, w6, w7, w8, w9, .int 1, w11, w12, w13, w14, w15, w16, w17, w18, w19, w20, w21, w22, w23, w24, w25, w26, w27, w28, w29, w30, w31, w32, w33, w34, w35, w36, w37, w38, w39, w40]))])) 0 0 (va_A [(q1, .inr (12, [w4, w5, w6, w7, w8, w9, w10, w11, w12, w13, w14, w15, w16, w17, w18, w19, w20, w21, w22, w23, w24, w25, w26, w27, w28, w29, w30, w31, w32, w33, w34, w35, w36, w37, w38, w39, w40]))] sz) := by
  refine ofN (by decide) (Nat.le_of_ble_eq_true rfl) rfl ?_
  intro p e s m args below meth c A ls hAe hsz hx hb hml hr hlocks hin hown hE hP hD hA hS hl
  have hown : s.vm.findClass RX10 = some m.cls := hown
  refine lv_aload_n hx hb dX10_setPriority_0 rfl (lv_at hl 0 rfl) ?_
  refine lv_iconst (v := 1) hx hb dX10_setPriority_1 (by decide) ?_
  refine pf_RX10_86 (ws' := [(q1, .inr (12, [w4, w5, w6, w7, w8, w9, .int 1, w11, w12, w13, w14, w15, w16, w17, w18, w19, w20, w21, w22, w23, w24, w25, w26, w27, w28, w29, w30, w31, w32, w33, w34, w35, w36, w37, w38, w39, w40]))]) hx hb hown hE hP hD hS 0 rfl rfl rfl (Nat.le_of_ble_eq_true rfl) dX10_setPriority_2 rfl (fun H locs hP hD hS => ?_)
  refine lv_iload_n hx hb dX10_setPriority_5 rfl (lv_at hl 1 rfl) ?_
  refine g0_i (rS (rest := []) hx hb hml hown hE hP hD (c1839_X10_isInstrument l g x2 h41 H.size) (kS_X10_isInstrument hE (e1645 hE) rfl rfl ⟨(Nat.le_of_ble_eq_true rfl), (Nat.le_of_ble_eq_true rfl)⟩) [] rfl (by decide) rfl hl.1 rfl (lv_room (Nat.le_of_ble_eq_true rfl)) dX10_setPriority_6 ⟨(Nat.le_of_ble_eq_true rfl), (Nat.le_of_ble_eq_true rfl)⟩) hP hD hS hA (fun u9 H locs hP hS => ?_)
  refine lv_if_eq (tgt := 33) hx hb dX10_setPriority_9 (by decide) (fun _ => ?_) (fun h => absurd (by decide) h)
  refine lv_iconst (v := 0) hx hb dX10_setPriority_33 (by decide) ?_
  exact x_zret hx hb hr rfl rfl hlocks hP hD hS hAe hsz (Nat.le_of_ble_eq_true rfl) (Nat.le_of_ble_eq_true rfl) (fun _ => 0) [0] (by decide) rfl dX10_setPriority_34

set_option maxHeartbeats 4000000 in
set_option maxRecDepth 100000 in
theorem c2109_X9_setPriority (l : Launch) (g : gG) (hlx : l.stackTraces = false) (q1 : Nat) (x2 x3 : Int32) (h4 : (0 : Int32) ≤ x2) (h5 : x2 < 4) (h6 : x3 < 0) (sz : Nat) : vx_Met l yX9_setPriority [Cond.code yX9_setPriority cX9_setPriority 5 (some .int)] ({ frames := 7, cells := 1, slots := 6, locals := 122 } : Room) (va_Pc [.ref q1, .int x2, .int x3] (PZ g sz [])) NI (XW g [] sz "java/lang/IllegalArgumentException" []) 1 6 (va_A [] sz) := by
  refine ofX (by decide) (Nat.le_of_ble_eq_true rfl) rfl ?_
  intro p e s m args below meth c A ls hAe hsz hx hb hml hr hlocks hin hown hE hP hD hA hS hl hex hz
  have hown : s.vm.findClass RX9 = some m.cls := hown
  refine lv_iload_n hx hb dX9_setPriority_0 rfl (lv_at hl 1 rfl) ?_
  refine g0_v (rS (rest := []) hx hb hml hown hE hP hD (c1854_X9_requireInstrument l g x2 h4 h5 s.heap.size) (kS_X9_requireInstrument hE (e991 hE) rfl rfl ⟨(Nat.le_of_ble_eq_true rfl), (Nat.le_of_ble_eq_true rfl)⟩) [] rfl (by decide) rfl hl.1 rfl (lv_room (Nat.le_of_ble_eq_true rfl)) dX9_setPriority_1 ⟨(Nat.le_of_ble_eq_true rfl), (Nat.le_of_ble_eq_true rfl)⟩) hP hD hS hA (fun u9 H locs hP hS => ?_)
  refine lv_iload_n hx hb dX9_setPriority_4 rfl (lv_at hl 2 rfl) ?_
  refine lv_iconst (v := 0) hx hb dX9_setPriority_5 (by decide) ?_
  refine lv_bipush (v := 9) hx hb dX9_setPriority_6 (by decide) ?_
  refine gx_v (wr := []) (rSx (rest := []) hx hb hml hown hE hP hD hS hA hz (c639_X9_requireRange l g hlx x3 9 h6 H.size) (kS_X9_requireRange hE (e636 hE) rfl rfl ⟨(Nat.le_of_ble_eq_true rfl), (Nat.le_of_ble_eq_true rfl)⟩) [] rfl (by decide) rfl hl.1 rfl (lv_room (Nat.le_of_ble_eq_true rfl)) dX9_setPriority_8 ⟨(Nat.le_of_ble_eq_true rfl), (Nat.le_of_ble_eq_true rfl)⟩) hP hD hS hA [] [] rfl rfl (by decide) (by decide) (fun ce9 q9 H locs hP hD hS hq1 hq2 hq3 => ?_)
  exact x_out hex hlocks hq1 hq2 hq3 hP hD hS hAe hsz (Nat.le_of_ble_eq_true rfl) (Nat.le_of_ble_eq_true rfl) [] (by decide) rfl

set_option maxHeartbeats 4000000 in
set_option maxRecDepth 100000 in
theorem c2110_L_setPriority (l : Launch) (g : gG) (hlx : l.stackTraces = false) (q1 q4 : Nat) (x2 x3 : Int32) (w8 w9 w10 w11 w12 w13 w14 w15 w16 w17 w18 : Value) (h5 : (0 : Int32) ≤ x2) (h6 : x2 < 4) (h7 : x3 < 0) (sz : Nat) : Met l yL_setPriority [Cond.codeWith yL_setPriority cL_setPriority 5 (some .int) [(0, 10, 13, 13), (0, 10, 17, 15)]] ({ frames := 8, cells := 1, slots := 6, locals := 146 } : Room) (va_Pc [.ref q1, .int x2, .int x3, .ref q4] (PZ g sz [(q1, .inr (11, [w8, w9, w10, w11, w12, w13, w14, w15, w16, w17, w18]))])) (QI g [(q1, .inr (11, [w8, w9, w10, w11, w12, w13, w14, w15, w16, w17, w18]))] sz 2 (fun _ => [])) 1 6 (va_A [(q1, .inr (11, [w8, w9, w10, w11, w12, w13, w14, w15, w16, w17, w18]))] sz) := by
  refine ofH (by decide) (Nat.le_of_ble_eq_true rfl) rfl ?_
  intro p e s m args below meth c A ls hAe hsz hx hb hml hr hlocks hin hown hE hP hD hA hS hl htb hz
  have hown : s.vm.findClass RL = some m.cls := hown
  refine lv_aload_n hx hb dL_setPriority_0 rfl (lv_at hl 3 rfl) ?_
  refine lv_iconst (v := 0) hx hb dL_setPriority_1 (by decide) ?_
  refine lv_aload_n hx hb dL_setPriority_2 rfl (lv_at hl 0 rfl) ?_
  refine lv_iload_n hx hb dL_setPriority_3 rfl (lv_at hl 1 rfl) ?_
  refine lv_iload_n hx hb dL_setPriority_4 rfl (lv_at hl 2 rfl) ?_
  refine gx_i (wr := [(q1, .inr (11, [w8, w9, w10, w11, w12, w13, w14, w15, w16, w17, w18]))]) (rVx (rest := [.int 0, .ref q4]) hx hb hml hown hE hP hD hS hA hz 0 rfl rfl (c2109_X9_setPriority l g hlx q1 x2 x3 h5 h6 h7 s.heap.size) (kV_X9_setPriority hE (e1006 hE) rfl rfl ⟨(Nat.le_of_ble_eq_true rfl), (Nat.le_of_ble_eq_true rfl)⟩) [] rfl (by decide) rfl hl.1 rfl (lv_room (Nat.le_of_ble_eq_true rfl)) dL_setPriority_5 ⟨(Nat.le_of_ble_eq_true rfl), (Nat.le_of_ble_eq_true rfl)⟩) hP hD hS hA [] [0] rfl rfl (by decide) (by decide) (fun ce9 q9 H locs hP hD hS hq1 hq2 hq3 => ?_)
  have hP : va_P g.1 vwCl [(q1, .inr (11, [w8, w9, w10, w11, w12, w13, w14, w15, w16, w17, w18]))] H := hP
  have hD : va_D A [(q1, .inr (11, [w8, w9, w10, w11, w12, w13, w14, w15, w16, w17, w18]))] := hD
  refine x_catch (name := "java/lang/IllegalArgumentException") (hh := [(0, 10, 13, 13), (0, 10, 17, 15)]) (tgt := 17) hown htb [⟨0, 10, 13, 13⟩] ⟨0, 10, 17, 15⟩ [] rfl (fun z hz => by
    rcases List.mem_cons.mp hz with rfl | hz
    · exact Or.inr ⟨by decide, "java/lang/IndexOutOfBoundsException", e532 hE, hE.2.2.2.2.2 ("java/lang/IllegalArgumentException", "java/lang/IndexOutOfBoundsException") (by decide +kernel)⟩
    exact nomatch hz) rfl (by decide) (e611 hE) (e641 hE) hq1 hq2 hq3 rfl ?_
  refine lv_astore (lv' := [(4, .ref q9), (0, .ref q1), (1, .int x2), (2, .int x3), (3, .ref q4)]) hx hb dL_setPriority_17 hl (by decide) rfl (fun ls hl => ?_)
  refine lv_iconst (v := 2) hx hb dL_setPriority_19 (by decide) ?_
  exact x_zret hx hb hr rfl rfl hlocks hP hD hS hAe hsz (Nat.le_of_ble_eq_true rfl) (Nat.le_of_ble_eq_true rfl) (fun _ => 0) [] (by decide) rfl dL_setPriority_20

set_option maxHeartbeats 4000000 in
set_option maxRecDepth 100000 in
theorem c2111_X10_sets (l : Launch) (g : gG) (q1 : Nat) (x2 x3 : Int32) (w5 w6 w7 w8 w9 w10 w11 w12 w13 w14 w15 w16 w17 w18 w19 w20 w21 w22 w23 w24 w25 w26 w27 w28 w29 w30 w31 w32 w33 w34 w35 w36 w37 w38 w39 w40 w41 : Value) (h4 : x3 < 0) (sz : Nat) : Met l yX10_sets [Cond.code yX10_sets cX10_sets 7 (some .int)] ({ frames := 1, cells := 0, slots := 0, locals := 22 } : Room) (va_Pc [.ref q1, .int x2, .int x3, .int 0, .int 9, .int 2] (PX g sz [(q1, .inr (12, [w5, w6, w7, w8, w9, w10, w11, w12, w13, w14, w15, w16, w17, w18, w19, w20, w21, w22, w23, w24, w25, w26, w27, w28, w29, w30, w31, w32, w33, w34, w35, w36, w37, w38, w39, w40, w41]))])) (QI g [(q1, .inr (12, [w5, w6, w7, w8, w9, w10, w11, w12, w13, w14, w15, w16, w17, w18, w19, w20, w21, w22, w23, w24, w25, w26, w27, w28, w29, w30, w31, w32, w33, w34, w35, w36, w37, w38, w39, w40, w41]))] sz 0 (fun _ => [(q1, .inr (12, [w5, w6, w7, w8, w9, w10, .int 2, w12, w13, w14, w15, w16, w17, w18, w19, w20, w21, w22, w23, w24, w25, w26, w27, w28, w29, w30, w31, w32, w33, w34, w35, w36, w37, w38, w39, w40, w41]))])) 0 0 (va_A [(q1, .inr (12, [w5, w6, w7, w8, w9, w10, w11, w12, w13, w14, w15, w16, w17, w18, w19, w20, w21, w22, w23, w24, w25, w26, w27, w28, w29, w30, w31, w32, w33, w34, w35, w36, w37, w38, w39, w40, w41]))] sz) := by
  refine ofN (by decide) (Nat.le_of_ble_eq_true rfl) rfl ?_
  intro p e s m args below meth c A ls hAe hsz hx hb hml hr hlocks hin hown hE hP hD hA hS hl
  have hown : s.vm.findClass RX10 = some m.cls := hown
  refine lv_aload_n hx hb dX10_sets_0 rfl (lv_at hl 0 rfl) ?_
  refine lv_iload_n hx hb dX10_sets_1 rfl (lv_at hl 2 rfl) ?_
  refine lv_iload_n hx hb dX10_sets_2 rfl (lv_at hl 3 rfl) ?_
  refine lv_iload hx hb dX10_sets_3 (lv_at hl 4 rfl) ?_
  refine g0_i (rS (rest := [.ref q1]) hx hb hml hown hE hP hD (c642_X10_in l g x3 9 h4 s.heap.size) (kS_X10_in hE (e1431 hE) rfl rfl ⟨(Nat.le_of_ble_eq_true rfl), (Nat.le_of_ble_eq_true rfl)⟩) [] rfl (by decide) rfl hl.1 rfl (lv_room (Nat.le_of_ble_eq_true rfl)) dX10_sets_5 ⟨(Nat.le_of_ble_eq_true rfl), (Nat.le_of_ble_eq_true rfl)⟩) hP hD hS hA (fun u9 H locs hP hS => ?_)
  refine lv_if_eq (tgt := 15) hx hb dX10_sets_8 (by decide) (fun _ => ?_) (fun h => absurd (by decide) h)
  refine lv_iload hx hb dX10_sets_15 (lv_at hl 5 rfl) ?_
  refine pf_RX10_86 (ws' := [(q1, .inr (12, [w5, w6, w7, w8, w9, w10, .int 2, w12, w13, w14, w15, w16, w17, w18, w19, w20, w21, w22, w23, w24, w25, w26, w27, w28, w29, w30, w31, w32, w33, w34, w35, w36, w37, w38, w39, w40, w41]))]) hx hb hown hE hP hD hS 0 rfl rfl rfl (Nat.le_of_ble_eq_true rfl) dX10_sets_17 rfl (fun H locs hP hD hS => ?_)
  refine lv_aload_n hx hb dX10_sets_20 rfl (lv_at hl 0 rfl) ?_
  refine gf_RX10_86 hx hb hown hE hP 0 rfl rfl dX10_sets_21 ?_
  refine lv_if_le (tgt := 29) hx hb dX10_sets_24 (by decide) (fun h => absurd h (by decide)) (fun _ => ?_)
  refine lv_iconst (v := 0) hx hb dX10_sets_27 (by decide) ?_
  exact x_zret hx hb hr rfl rfl hlocks hP hD hS hAe hsz (Nat.le_of_ble_eq_true rfl) (Nat.le_of_ble_eq_true rfl) (fun _ => 0) [0] (by decide) rfl dX10_sets_28

set_option maxHeartbeats 4000000 in
set_option maxRecDepth 100000 in
theorem c2112_X10_setPriority (l : Launch) (g : gG) (q1 : Nat) (x2 x3 : Int32) (w4 w5 w6 w7 w8 w9 w10 w11 w12 w13 w14 w15 w16 w17 w18 w19 w20 w21 w22 w23 w24 w25 w26 w27 w28 w29 w30 w31 w32 w33 w34 w35 w36 w37 w38 w39 w40 : Value) (h41 : (0 : Int32) ≤ x2) (h42 : x2 ≤ 3) (h43 : x3 < 0) (sz : Nat) : Met l yX10_setPriority [Cond.code yX10_setPriority cX10_setPriority 3 (some .int)] ({ frames := 2, cells := 0, slots := 0, locals := 48 } : Room) (va_Pc [.ref q1, .int x2, .int x3] (PX g sz [(q1, .inr (12, [w4, w5, w6, w7, w8, w9, w10, w11, w12, w13, w14, w15, w16, w17, w18, w19, w20, w21, w22, w23, w24, w25, w26, w27, w28, w29, w30, w31, w32, w33, w34, w35, w36, w37, w38, w39, w40]))])) (QI g [(q1, .inr (12, [w4, w5, w6, w7, w8, w9, w10, w11, w12, w13, w14, w15, w16, w17, w18, w19, w20, w21, w22, w23, w24, w25, w26, w27, w28, w29, w30, w31, w32, w33, w34, w35, w36, w37, w38, w39, w40]))] sz 0 (fun _ => [(q1, .inr (12, [w4, w5, w6, w7, w8, w9, .int 2, w11, w12, w13, w14, w15, w16, w17, w18, w19, w20, w21, w22, w23, w24, w25, w26, w27, w28, w29, w30, w31, w32, w33, w34, w35, w36, w37, w38, w39, w40]))])) 0 0 (va_A [(q1, .inr (12, [w4, w5, w6, w7, w8, w9, w10, w11, w12, w13, w14, w15, w16, w17, w18, w19, w20, w21, w22, w23, w24, w25, w26, w27, w28, w29, w30, w31, w32, w33, w34, w35, w36, w37, w38, w39, w40]))] sz) := by
  refine ofN (by decide) (Nat.le_of_ble_eq_true rfl) rfl ?_
  intro p e s m args below meth c A ls hAe hsz hx hb hml hr hlocks hin hown hE hP hD hA hS hl
  have hown : s.vm.findClass RX10 = some m.cls := hown
  refine lv_aload_n hx hb dX10_setPriority_0 rfl (lv_at hl 0 rfl) ?_
  refine lv_iconst (v := 1) hx hb dX10_setPriority_1 (by decide) ?_
  refine pf_RX10_86 (ws' := [(q1, .inr (12, [w4, w5, w6, w7, w8, w9, .int 1, w11, w12, w13, w14, w15, w16, w17, w18, w19, w20, w21, w22, w23, w24, w25, w26, w27, w28, w29, w30, w31, w32, w33, w34, w35, w36, w37, w38, w39, w40]))]) hx hb hown hE hP hD hS 0 rfl rfl rfl (Nat.le_of_ble_eq_true rfl) dX10_setPriority_2 rfl (fun H locs hP hD hS => ?_)
  refine lv_iload_n hx hb dX10_setPriority_5 rfl (lv_at hl 1 rfl) ?_
  refine g0_i (rS (rest := []) hx hb hml hown hE hP hD (c1857_X10_isInstrument l g x2 h41 h42 H.size) (kS_X10_isInstrument hE (e1645 hE) rfl rfl ⟨(Nat.le_of_ble_eq_true rfl), (Nat.le_of_ble_eq_true rfl)⟩) [] rfl (by decide) rfl hl.1 rfl (lv_room (Nat.le_of_ble_eq_true rfl)) dX10_setPriority_6 ⟨(Nat.le_of_ble_eq_true rfl), (Nat.le_of_ble_eq_true rfl)⟩) hP hD hS hA (fun u9 H locs hP hS => ?_)
  refine lv_if_eq (tgt := 33) hx hb dX10_setPriority_9 (by decide) (fun h => absurd h (by decide)) (fun _ => ?_)
  refine lv_aload_n hx hb dX10_setPriority_12 rfl (lv_at hl 0 rfl) ?_
  refine lv_sipush (v := 474) hx hb dX10_setPriority_13 (by decide) ?_
  refine lv_iconst (v := 5) hx hb dX10_setPriority_16 (by decide) ?_
  refine lv_iload_n hx hb dX10_setPriority_17 rfl (lv_at hl 1 rfl) ?_
  refine x_imul (v := (5 * x2)) hx hb dX10_setPriority_18 rfl ?_
  refine x_iadd (v := (474 + (5 * x2))) hx hb dX10_setPriority_19 rfl ?_
  refine lv_iconst (v := 4) hx hb dX10_setPriority_20 (by decide) ?_
  refine x_iadd (v := ((474 + (5 * x2)) + 4)) hx hb dX10_setPriority_21 rfl ?_
  refine lv_iload_n hx hb dX10_setPriority_22 rfl (lv_at hl 2 rfl) ?_
  refine lv_iconst (v := 0) hx hb dX10_setPriority_23 (by decide) ?_
  refine lv_bipush (v := 9) hx hb dX10_setPriority_24 (by decide) ?_
  refine lv_iconst (v := 2) hx hb dX10_setPriority_26 (by decide) ?_
  refine g_i (wr := []) (rV (rest := []) hx hb hml hown hE hP hD 0 rfl rfl (c2111_X10_sets l g q1 ((474 + (5 * x2)) + 4) x3 w4 w5 w6 w7 w8 w9 (.int 1) w11 w12 w13 w14 w15 w16 w17 w18 w19 w20 w21 w22 w23 w24 w25 w26 w27 w28 w29 w30 w31 w32 w33 w34 w35 w36 w37 w38 w39 w40 h43 H.size) (kV_X10_sets hE (e1628 hE) rfl rfl ⟨(Nat.le_of_ble_eq_true rfl), (Nat.le_of_ble_eq_true rfl)⟩) [0] rfl (by decide) rfl hl.1 rfl (lv_room (Nat.le_of_ble_eq_true rfl)) dX10_setPriority_27 ⟨(Nat.le_of_ble_eq_true rfl), (Nat.le_of_ble_eq_true rfl)⟩) hP hD hS hA [0] [] rfl rfl (by decide) (by decide) (fun u2 H locs hP hD hS => ?_)
  have hP : va_P g.1 vwCl [(q1, .inr (12, [w4, w5, w6, w7, w8, w9, .int 2, w11, w12, w13, w14, w15, w16, w17, w18, w19, w20, w21, w22, w23, w24, w25, w26, w27, w28, w29, w30, w31, w32, w33, w34, w35, w36, w37, w38, w39, w40]))] H := hP
  have hD : va_D A [(q1, .inr (12, [w4, w5, w6, w7, w8, w9, .int 2, w11, w12, w13, w14, w15, w16, w17, w18, w19, w20, w21, w22, w23, w24, w25, w26, w27, w28, w29, w30, w31, w32, w33, w34, w35, w36, w37, w38, w39, w40]))] := hD
  refine lv_goto (tgt := 34) hx hb dX10_setPriority_30 (by decide) ?_
  exact x_zret hx hb hr rfl rfl hlocks hP hD hS hAe hsz (Nat.le_of_ble_eq_true rfl) (Nat.le_of_ble_eq_true rfl) (fun _ => 0) [0] (by decide) rfl dX10_setPriority_34

set_option maxHeartbeats 4000000 in
set_option maxRecDepth 100000 in
theorem c2113_X9_requireRange (l : Launch) (g : gG) (x1 : Int32) (h2 : (0 : Int32) ≤ x1) (h3 : x1 ≤ 9) (sz : Nat) : Met l yX9_requireRange [Cond.code yX9_requireRange cX9_requireRange 3 none] ({ frames := 0, cells := 0, slots := 0, locals := 0 } : Room) (va_Pc [.int x1, .int 0, .int 9] (PX g sz [])) (QV g [] sz (fun _ => [])) 0 0 (va_A [] sz) := by
  refine ofN (by decide) (Nat.le_of_ble_eq_true rfl) rfl ?_
  intro p e s m args below meth c A ls hAe hsz hx hb hml hr hlocks hin hown hE hP hD hA hS hl
  have hown : s.vm.findClass RX9 = some m.cls := hown
  refine lv_iload_n hx hb dX9_requireRange_0 rfl (lv_at hl 0 rfl) ?_
  refine lv_iload_n hx hb dX9_requireRange_1 rfl (lv_at hl 1 rfl) ?_
  refine lv_icmp_lt (tgt := 10) hx hb dX9_requireRange_2 (by decide) (fun h => absurd h (i_nlt h2)) (fun _ => ?_)
  refine lv_iload_n hx hb dX9_requireRange_5 rfl (lv_at hl 0 rfl) ?_
  refine lv_iload_n hx hb dX9_requireRange_6 rfl (lv_at hl 2 rfl) ?_
  refine lv_icmp_le (tgt := 21) hx hb dX9_requireRange_7 (by decide) (fun _ => ?_) (fun h => absurd h3 h)
  exact x_vret hx hb hr hlocks hP hD hS hAe hsz (Nat.le_of_ble_eq_true rfl) (Nat.le_of_ble_eq_true rfl) (fun _ => 0) [] (by decide) rfl dX9_requireRange_21

set_option maxHeartbeats 4000000 in
set_option maxRecDepth 100000 in
theorem c2114_X6_instrumentNumber (l : Launch) (g : gG) (q1 q9 : Nat) (w2 w3 w4 w6 w7 w8 : Value) (f10 : Nat → Int32) (hf11 : f10 4 = 5) (sz : Nat) : Met l yX6_instrumentNumber [Cond.code yX6_instrumentNumber cX6_instrumentNumber 4 (some .int)] ({ frames := 0, cells := 0, slots := 0, locals := 0 } : Room) (va_Pc [.ref q1, .int 0, .int 4] (PX g sz [(q9, .inl (g.2 0, 20, .inl f10)), (q1, .inr (8, [w2, w3, w4, .ref q9, w6, w7, w8]))])) (QI g [(q9, .inl (g.2 0, 20, .inl f10)), (q1, .inr (8, [w2, w3, w4, .ref q9, w6, w7, w8]))] sz 5 (fun _ => [(q9, .inl (g.2 0, 20, .inl f10)), (q1, .inr (8, [w2, w3, w4, .ref q9, w6, w7, w8]))])) 0 0 (va_A [(q9, .inl (g.2 0, 20, .inl f10)), (q1, .inr (8, [w2, w3, w4, .ref q9, w6, w7, w8]))] sz) := by
  refine ofN (by decide) (Nat.le_of_ble_eq_true rfl) rfl ?_
  intro p e s m args below meth c A ls hAe hsz hx hb hml hr hlocks hin hown hE hP hD hA hS hl
  have hown : s.vm.findClass RX6 = some m.cls := hown
  refine lv_iload_n hx hb dX6_instrumentNumber_0 rfl (lv_at hl 1 rfl) ?_
  refine lv_iconst (v := 5) hx hb dX6_instrumentNumber_1 (by decide) ?_
  refine x_imul (v := 0) hx hb dX6_instrumentNumber_2 (by decide) ?_
  refine lv_iload_n hx hb dX6_instrumentNumber_3 rfl (lv_at hl 2 rfl) ?_
  refine x_iadd (v := 4) hx hb dX6_instrumentNumber_4 (by decide) ?_
  refine lv_istore_n (lv' := [(3, .int 4), (0, .ref q1), (1, .int 0), (2, .int 4)]) hx hb dX6_instrumentNumber_5 rfl hl (by decide) rfl (fun ls hl => ?_)
  refine lv_iload_n hx hb dX6_instrumentNumber_6 rfl (lv_at hl 0 rfl) ?_
  refine lv_if_lt (tgt := 28) hx hb dX6_instrumentNumber_7 (by decide) (fun h => absurd h (by decide)) (fun _ => ?_)
  refine lv_iload_n hx hb dX6_instrumentNumber_10 rfl (lv_at hl 0 rfl) ?_
  refine lv_aload_n hx hb dX6_instrumentNumber_11 rfl (lv_at hl 1 rfl) ?_
  refine gf_RX6_29 hx hb hown hE hP 1 rfl rfl dX6_instrumentNumber_12 ?_
  refine x_aleni (v := 20) hx hb hE hP 0 rfl rfl dX6_instrumentNumber_15 ?_
  refine lv_icmp_ge (tgt := 28) hx hb dX6_instrumentNumber_16 (by decide) (fun h => absurd h (by decide)) (fun _ => ?_)
  refine lv_aload_n hx hb dX6_instrumentNumber_19 rfl (lv_at hl 1 rfl) ?_
  refine gf_RX6_29 hx hb hown hE hP 1 rfl rfl dX6_instrumentNumber_20 ?_
  refine lv_iload_n hx hb dX6_instrumentNumber_23 rfl (lv_at hl 0 rfl) ?_
  refine x_iald (v := 5) hx hb hE hP 0 rfl 4 (x_in (by decide)) (by decide) hf11 dX6_instrumentNumber_24 ?_
  refine lv_goto (tgt := 29) hx hb dX6_instrumentNumber_25 (by decide) ?_
  exact x_zret hx hb hr rfl rfl hlocks hP hD hS hAe hsz (Nat.le_of_ble_eq_true rfl) (Nat.le_of_ble_eq_true rfl) (fun _ => 0) [0, 1] (by decide) rfl dX6_instrumentNumber_29

set_option maxHeartbeats 4000000 in
set_option maxRecDepth 100000 in
theorem c2115_X9_putAt (l : Launch) (g : gG) (q1 : Nat) (x2 : Int32) (f3 : Nat → Int32) (sz : Nat) : Met l yX9_putAt [Cond.code yX9_putAt cX9_putAt 3 none] ({ frames := 0, cells := 0, slots := 0, locals := 0 } : Room) (va_Pc [.ref q1, .int 4, .int x2] (PX g sz [(q1, .inl (g.2 0, 20, .inl f3))])) (QV g [(q1, .inl (g.2 0, 20, .inl f3))] sz (fun _ => [(q1, .inl (g.2 0, 20, .inl (upd f3 4 x2)))])) 0 0 (va_A [(q1, .inl (g.2 0, 20, .inl f3))] sz) := by
  refine ofN (by decide) (Nat.le_of_ble_eq_true rfl) rfl ?_
  intro p e s m args below meth c A ls hAe hsz hx hb hml hr hlocks hin hown hE hP hD hA hS hl
  have hown : s.vm.findClass RX9 = some m.cls := hown
  refine lv_iload_n hx hb dX9_putAt_0 rfl (lv_at hl 1 rfl) ?_
  refine lv_if_lt (tgt := 14) hx hb dX9_putAt_1 (by decide) (fun h => absurd h (by decide)) (fun _ => ?_)
  refine lv_iload_n hx hb dX9_putAt_4 rfl (lv_at hl 1 rfl) ?_
  refine lv_aload_n hx hb dX9_putAt_5 rfl (lv_at hl 0 rfl) ?_
  refine x_aleni (v := 20) hx hb hE hP 0 rfl rfl dX9_putAt_6 ?_
  refine lv_icmp_ge (tgt := 14) hx hb dX9_putAt_7 (by decide) (fun h => absurd h (by decide)) (fun _ => ?_)
  refine lv_aload_n hx hb dX9_putAt_10 rfl (lv_at hl 0 rfl) ?_
  refine lv_iload_n hx hb dX9_putAt_11 rfl (lv_at hl 1 rfl) ?_
  refine lv_iload_n hx hb dX9_putAt_12 rfl (lv_at hl 2 rfl) ?_
  refine x_iast (ws' := [(q1, .inl (g.2 0, 20, .inl (upd f3 4 x2)))]) hx hb hE hP hD hS 0 rfl 4 (x_in (by decide)) (by decide) dX9_putAt_13 rfl (fun H locs hP hD hS => ?_)
  exact x_vret hx hb hr hlocks hP hD hS hAe hsz (Nat.le_of_ble_eq_true rfl) (Nat.le_of_ble_eq_true rfl) (fun _ => 0) [0] (by decide) rfl dX9_putAt_14

set_option maxHeartbeats 4000000 in
set_option maxRecDepth 100000 in
theorem c2116_X6_putInstrumentNumber (l : Launch) (g : gG) (q1 q10 : Nat) (x2 : Int32) (w3 w4 w5 w7 w8 w9 : Value) (f11 : Nat → Int32) (sz : Nat) : Met l yX6_putInstrumentNumber [Cond.code yX6_putInstrumentNumber cX6_putInstrumentNumber 4 none] ({ frames := 1, cells := 0, slots := 0, locals := 22 } : Room) (va_Pc [.ref q1, .int 0, .int 4, .int x2] (PX g sz [(q10, .inl (g.2 0, 20, .inl f11)), (q1, .inr (8, [w3, w4, w5, .ref q10, w7, w8, w9]))])) (QV g [(q10, .inl (g.2 0, 20, .inl f11)), (q1, .inr (8, [w3, w4, w5, .ref q10, w7, w8, w9]))] sz (fun _ => [(q1, .inr (8, [w3, w4, w5, .ref q10, w7, w8, w9])), (q10, .inl (g.2 0, 20, .inl (upd f11 4 x2)))])) 0 0 (va_A [(q10, .inl (g.2 0, 20, .inl f11)), (q1, .inr (8, [w3, w4, w5, .ref q10, w7, w8, w9]))] sz) := by
  refine ofN (by decide) (Nat.le_of_ble_eq_true rfl) rfl ?_
  intro p e s m args below meth c A ls hAe hsz hx hb hml hr hlocks hin hown hE hP hD hA hS hl
  have hown : s.vm.findClass RX6 = some m.cls := hown
  refine lv_aload_n hx hb dX6_putInstrumentNumber_0 rfl (lv_at hl 0 rfl) ?_
  refine gf_RX6_29 hx hb hown hE hP 1 rfl rfl dX6_putInstrumentNumber_1 ?_
  refine lv_iload_n hx hb dX6_putInstrumentNumber_4 rfl (lv_at hl 1 rfl) ?_
  refine lv_iconst (v := 5) hx hb dX6_putInstrumentNumber_5 (by decide) ?_
  refine x_imul (v := 0) hx hb dX6_putInstrumentNumber_6 (by decide) ?_
  refine lv_iload_n hx hb dX6_putInstrumentNumber_7 rfl (lv_at hl 2 rfl) ?_
  refine x_iadd (v := 4) hx hb dX6_putInstrumentNumber_8 (by decide) ?_
  refine lv_iload_n hx hb dX6_putInstrumentNumber_9 rfl (lv_at hl 3 rfl) ?_
  refine g_v (wr := [(q1, .inr (8, [w3, w4, w5, .ref q10, w7, w8, w9]))]) (rSN (rest := []) hx hb hml hown hE hP hD (c2115_X9_putAt l g q10 x2 f11 s.heap.size) (kSN_X9_putAt hE (e107 hE) rfl rfl ⟨(Nat.le_of_ble_eq_true rfl), (Nat.le_of_ble_eq_true rfl)⟩) [0] rfl (by decide) rfl hl.1 rfl (lv_room (Nat.le_of_ble_eq_true rfl)) dX6_putInstrumentNumber_10 ⟨(Nat.le_of_ble_eq_true rfl), (Nat.le_of_ble_eq_true rfl)⟩) hP hD hS hA [0] [1] rfl rfl (by decide) (by decide) (fun u1 H locs hP hD hS => ?_)
  have hP : va_P g.1 vwCl [(q1, .inr (8, [w3, w4, w5, .ref q10, w7, w8, w9])), (q10, .inl (g.2 0, 20, .inl (upd f11 4 x2)))] H := hP
  have hD : va_D A [(q1, .inr (8, [w3, w4, w5, .ref q10, w7, w8, w9])), (q10, .inl (g.2 0, 20, .inl (upd f11 4 x2)))] := hD
  exact x_vret hx hb hr hlocks hP hD hS hAe hsz (Nat.le_of_ble_eq_true rfl) (Nat.le_of_ble_eq_true rfl) (fun _ => 0) [0, 1] (by decide) rfl dX6_putInstrumentNumber_13

set_option maxHeartbeats 4000000 in
set_option maxRecDepth 100000 in
theorem c2117_X9_setPriority (l : Launch) (g : gG) (q1 q16 q20 q23 q25 q33 q34 q35 q36 q44 q45 q46 q47 q50 q51 q54 q55 q62 q63 q68 q69 : Nat) (x2 : Int32) (w6 w7 w8 w9 w10 w11 w12 w13 w14 w15 w30 w31 w32 w66 w67 : Value) (f21 : Nat → Option Nat) (f56 : Nat → Int32) (f57 : Nat → Int32) (f70 : Nat → Int32) (f71 : Nat → Int32) (hf22 : f21 1 = some q23) (hf24 : f21 0 = some q25) (hf72 : f71 4 = 5) (h3 : (0 : Int32) ≤ x2) (h4 : x2 ≤ 9) (sz : Nat) : Met l yX9_setPriority [Cond.code yX9_setPriority cX9_setPriority 5 (some .int)] ({ frames := 5, cells := 0, slots := 0, locals := 148 } : Room) (va_Pc [.ref q1, .int 0, .int x2] (PX g sz [(q36, .inl (g.2 0, 20, .inl f71)), (q47, .inl (g.2 0, 20, .inl f71)), (q35, .inl (g.2 0, 60, .inl f56)), (q46, .inl (g.2 0, 60, .inl f56)), (q69, .inl (g.2 0, 10, .inl f70)), (q63, .inl (g.2 0, 10, .inl f70)), (q68, .inl (g.2 0, 10, .inl f56)), (q62, .inl (g.2 0, 10, .inl f56)), (q34, .inr (9, [.ref q68, .ref q69, w66, w67])), (q45, .inr (9, [.ref q62, .ref q63, .int 1, .int 0])), (q55, .inl (g.2 0, 40, .inl f57)), (q51, .inl (g.2 0, 40, .inl f57)), (q54, .inl (g.2 0, 384, .inl f56)), (q50, .inl (g.2 0, 384, .inl f56)), (q33, .inr (5, [.ref q54, .ref q55])), (q44, .inr (5, [.ref q50, .ref q51])), (q25, .inr (8, [.ref q44, .ref q45, .ref q46, .ref q47, .int 0, .int 4, .int 0])), (q23, .inr (8, [.ref q33, .ref q34, .ref q35, .ref q36, w30, w31, w32])), (q20, .inl (g.2 3, 10, .inr (.inr (.inr (.inr f21))))), (q16, .inr (10, [.ref q20, .int 0, .int 0])), (q1, .inr (11, [.ref q16, w6, w7, w8, w9, w10, w11, w12, w13, w14, w15]))])) (QI g [(q36, .inl (g.2 0, 20, .inl f71)), (q47, .inl (g.2 0, 20, .inl f71)), (q35, .inl (g.2 0, 60, .inl f56)), (q46, .inl (g.2 0, 60, .inl f56)), (q69, .inl (g.2 0, 10, .inl f70)), (q63, .inl (g.2 0, 10, .inl f70)), (q68, .inl (g.2 0, 10, .inl f56)), (q62, .inl (g.2 0, 10, .inl f56)), (q34, .inr (9, [.ref q68, .ref q69, w66, w67])), (q45, .inr (9, [.ref q62, .ref q63, .int 1, .int 0])), (q55, .inl (g.2 0, 40, .inl f57)), (q51, .inl (g.2 0, 40, .inl f57)), (q54, .inl (g.2 0, 384, .inl f56)), (q50, .inl (g.2 0, 384, .inl f56)), (q33, .inr (5, [.ref q54, .ref q55])), (q44, .inr (5, [.ref q50, .ref q51])), (q25, .inr (8, [.ref q44, .ref q45, .ref q46, .ref q47, .int 0, .int 4, .int 0])), (q23, .inr (8, [.ref q33, .ref q34, .ref q35, .ref q36, w30, w31, w32])), (q20, .inl (g.2 3, 10, .inr (.inr (.inr (.inr f21))))), (q16, .inr (10, [.ref q20, .int 0, .int 0])), (q1, .inr (11, [.ref q16, w6, w7, w8, w9, w10, w11, w12, w13, w14, w15]))] sz 5 (fun _ => [(q20, .inl (g.2 3, 10, .inr (.inr (.inr (.inr f21))))), (q25, .inr (8, [.ref q44, .ref q45, .ref q46, .ref q47, .int 0, .int 4, .int 0])), (q33, .inr (5, [.ref q54, .ref q55])), (q44, .inr (5, [.ref q50, .ref q51])), (q54, .inl (g.2 0, 384, .inl f56)), (q50, .inl (g.2 0, 384, .inl f56)), (q55, .inl (g.2 0, 40, .inl f57)), (q51, .inl (g.2 0, 40, .inl f57)), (q34, .inr (9, [.ref q68, .ref q69, .int 1, .int 0])), (q45, .inr (9, [.ref q62, .ref q63, .int 1, .int 0])), (q68, .inl (g.2 0, 10, .inl f56)), (q62, .inl (g.2 0, 10, .inl f56)), (q69, .inl (g.2 0, 10, .inl f70)), (q63, .inl (g.2 0, 10, .inl f70)), (q35, .inl (g.2 0, 60, .inl f56)), (q46, .inl (g.2 0, 60, .inl f56)), (q47, .inl (g.2 0, 20, .inl f71)), (q23, .inr (8, [.ref q33, .ref q34, .ref q35, .ref q36, .int 0, .int 4, .int 0])), (q36, .inl (g.2 0, 20, .inl (upd f71 4 x2))), (q16, .inr (10, [.ref q20, .int 1, .int 1])), (q1, .inr (11, [.ref q16, w6, w7, w8, w9, w10, w11, w12, .int 0, .int 0, w15]))])) 0 0 (va_A [(q36, .inl (g.2 0, 20, .inl f71)), (q47, .inl (g.2 0, 20, .inl f71)), (q35, .inl (g.2 0, 60, .inl f56)), (q46, .inl (g.2 0, 60, .inl f56)), (q69, .inl (g.2 0, 10, .inl f70)), (q63, .inl (g.2 0, 10, .inl f70)), (q68, .inl (g.2 0, 10, .inl f56)), (q62, .inl (g.2 0, 10, .inl f56)), (q34, .inr (9, [.ref q68, .ref q69, w66, w67])), (q45, .inr (9, [.ref q62, .ref q63, .int 1, .int 0])), (q55, .inl (g.2 0, 40, .inl f57)), (q51, .inl (g.2 0, 40, .inl f57)), (q54, .inl (g.2 0, 384, .inl f56)), (q50, .inl (g.2 0, 384, .inl f56)), (q33, .inr (5, [.ref q54, .ref q55])), (q44, .inr (5, [.ref q50, .ref q51])), (q25, .inr (8, [.ref q44, .ref q45, .ref q46, .ref q47, .int 0, .int 4, .int 0])), (q23, .inr (8, [.ref q33, .ref q34, .ref q35, .ref q36, w30, w31, w32])), (q20, .inl (g.2 3, 10, .inr (.inr (.inr (.inr f21))))), (q16, .inr (10, [.ref q20, .int 0, .int 0])), (q1, .inr (11, [.ref q16, w6, w7, w8, w9, w10, w11, w12, w13, w14, w15]))] sz) := by
  refine ofN (by decide) (Nat.le_of_ble_eq_true rfl) rfl ?_
  intro p e s m args below meth c A ls hAe hsz hx hb hml hr hlocks hin hown hE hP hD hA hS hl
  have hown : s.vm.findClass RX9 = some m.cls := hown
  refine lv_iload_n hx hb dX9_setPriority_0 rfl (lv_at hl 1 rfl) ?_
  refine g0_v (rS (rest := []) hx hb hml hown hE hP hD (c1854_X9_requireInstrument l g 0 (by decide) (by decide) s.heap.size) (kS_X9_requireInstrument hE (e991 hE) rfl rfl ⟨(Nat.le_of_ble_eq_true rfl), (Nat.le_of_ble_eq_true rfl)⟩) [] rfl (by decide) rfl hl.1 rfl (lv_room (Nat.le_of_ble_eq_true rfl)) dX9_setPriority_1 ⟨(Nat.le_of_ble_eq_true rfl), (Nat.le_of_ble_eq_true rfl)⟩) hP hD hS hA (fun u9 H locs hP hS => ?_)
  refine lv_iload_n hx hb dX9_setPriority_4 rfl (lv_at hl 2 rfl) ?_
  refine lv_iconst (v := 0) hx hb dX9_setPriority_5 (by decide) ?_
  refine lv_bipush (v := 9) hx hb dX9_setPriority_6 (by decide) ?_
  refine g0_v (rS (rest := []) hx hb hml hown hE hP hD (c2113_X9_requireRange l g x2 h3 h4 H.size) (kS_X9_requireRange hE (e636 hE) rfl rfl ⟨(Nat.le_of_ble_eq_true rfl), (Nat.le_of_ble_eq_true rfl)⟩) [] rfl (by decide) rfl hl.1 rfl (lv_room (Nat.le_of_ble_eq_true rfl)) dX9_setPriority_8 ⟨(Nat.le_of_ble_eq_true rfl), (Nat.le_of_ble_eq_true rfl)⟩) hP hD hS hA (fun u9 H locs hP hS => ?_)
  refine lv_aload_n hx hb dX9_setPriority_11 rfl (lv_at hl 0 rfl) ?_
  refine gf_RX9_12 hx hb hown hE hP 20 rfl rfl dX9_setPriority_12 ?_
  refine g_r (wr := [(q1, .inr (11, [.ref q16, w6, w7, w8, w9, w10, w11, w12, w13, w14, w15]))]) (rV (rest := []) hx hb hml hown hE hP hD 19 rfl rfl (c127_X8_draft l g q16 q20 q23 q25 q33 q44 q50 q54 q51 q55 q34 q45 q62 q68 q63 q69 q46 q35 q47 q36 (.int 0) w30 w31 w32 w66 w67 f21 f56 f57 f70 f71 (hf22) (hf24) H.size) (kV_X8_draft hE (e659 hE) rfl rfl ⟨(Nat.le_of_ble_eq_true rfl), (Nat.le_of_ble_eq_true rfl)⟩) [0, 1, 2, 3, 4, 5, 6, 7, 8, 9, 10, 11, 12, 13, 14, 15, 16, 17, 18, 19] rfl (by decide) rfl hl.1 rfl (lv_room (Nat.le_of_ble_eq_true rfl)) dX9_setPriority_15 ⟨(Nat.le_of_ble_eq_true rfl), (Nat.le_of_ble_eq_true rfl)⟩) hP hD hS hA [0, 1, 2, 3, 4, 5, 6, 7, 8, 9, 10, 11, 12, 13, 14, 15, 16, 17, 18, 19] [20] rfl rfl (by decide) (by decide) (fun u3 H locs hP hD hS => ?_)
  have hP : va_P g.1 vwCl [(q1, .inr (11, [.ref q16, w6, w7, w8, w9, w10, w11, w12, w13, w14, w15])), (q20, .inl (g.2 3, 10, .inr (.inr (.inr (.inr f21))))), (q16, .inr (10, [.ref q20, .int 0, .int 0])), (q25, .inr (8, [.ref q44, .ref q45, .ref q46, .ref q47, .int 0, .int 4, .int 0])), (q23, .inr (8, [.ref q33, .ref q34, .ref q35, .ref q36, .int 0, .int 4, .int 0])), (q33, .inr (5, [.ref q54, .ref q55])), (q44, .inr (5, [.ref q50, .ref q51])), (q54, .inl (g.2 0, 384, .inl f56)), (q50, .inl (g.2 0, 384, .inl f56)), (q55, .inl (g.2 0, 40, .inl f57)), (q51, .inl (g.2 0, 40, .inl f57)), (q34, .inr (9, [.ref q68, .ref q69, .int 1, .int 0])), (q45, .inr (9, [.ref q62, .ref q63, .int 1, .int 0])), (q68, .inl (g.2 0, 10, .inl f56)), (q62, .inl (g.2 0, 10, .inl f56)), (q69, .inl (g.2 0, 10, .inl f70)), (q63, .inl (g.2 0, 10, .inl f70)), (q35, .inl (g.2 0, 60, .inl f56)), (q46, .inl (g.2 0, 60, .inl f56)), (q36, .inl (g.2 0, 20, .inl f71)), (q47, .inl (g.2 0, 20, .inl f71))] H := hP
  have hD : va_D A [(q1, .inr (11, [.ref q16, w6, w7, w8, w9, w10, w11, w12, w13, w14, w15])), (q20, .inl (g.2 3, 10, .inr (.inr (.inr (.inr f21))))), (q16, .inr (10, [.ref q20, .int 0, .int 0])), (q25, .inr (8, [.ref q44, .ref q45, .ref q46, .ref q47, .int 0, .int 4, .int 0])), (q23, .inr (8, [.ref q33, .ref q34, .ref q35, .ref q36, .int 0, .int 4, .int 0])), (q33, .inr (5, [.ref q54, .ref q55])), (q44, .inr (5, [.ref q50, .ref q51])), (q54, .inl (g.2 0, 384, .inl f56)), (q50, .inl (g.2 0, 384, .inl f56)), (q55, .inl (g.2 0, 40, .inl f57)), (q51, .inl (g.2 0, 40, .inl f57)), (q34, .inr (9, [.ref q68, .ref q69, .int 1, .int 0])), (q45, .inr (9, [.ref q62, .ref q63, .int 1, .int 0])), (q68, .inl (g.2 0, 10, .inl f56)), (q62, .inl (g.2 0, 10, .inl f56)), (q69, .inl (g.2 0, 10, .inl f70)), (q63, .inl (g.2 0, 10, .inl f70)), (q35, .inl (g.2 0, 60, .inl f56)), (q46, .inl (g.2 0, 60, .inl f56)), (q36, .inl (g.2 0, 20, .inl f71)), (q47, .inl (g.2 0, 20, .inl f71))] := hD
  refine lv_astore_n (lv' := [(3, .ref q23), (0, .ref q1), (1, .int 0), (2, .int x2)]) hx hb dX9_setPriority_18 rfl hl (by decide) rfl (fun ls hl => ?_)
  refine lv_aload_n hx hb dX9_setPriority_19 rfl (lv_at hl 0 rfl) ?_
  refine lv_iload_n hx hb dX9_setPriority_20 rfl (lv_at hl 2 rfl) ?_
  refine lv_iconst (v := 4) hx hb dX9_setPriority_21 (by decide) ?_
  refine g_i (wr := [(q1, .inr (11, [.ref q16, w6, w7, w8, w9, w10, w11, w12, w13, w14, w15])), (q20, .inl (g.2 3, 10, .inr (.inr (.inr (.inr f21))))), (q16, .inr (10, [.ref q20, .int 0, .int 0])), (q25, .inr (8, [.ref q44, .ref q45, .ref q46, .ref q47, .int 0, .int 4, .int 0])), (q33, .inr (5, [.ref q54, .ref q55])), (q44, .inr (5, [.ref q50, .ref q51])), (q54, .inl (g.2 0, 384, .inl f56)), (q50, .inl (g.2 0, 384, .inl f56)), (q55, .inl (g.2 0, 40, .inl f57)), (q51, .inl (g.2 0, 40, .inl f57)), (q34, .inr (9, [.ref q68, .ref q69, .int 1, .int 0])), (q45, .inr (9, [.ref q62, .ref q63, .int 1, .int 0])), (q68, .inl (g.2 0, 10, .inl f56)), (q62, .inl (g.2 0, 10, .inl f56)), (q69, .inl (g.2 0, 10, .inl f70)), (q63, .inl (g.2 0, 10, .inl f70)), (q35, .inl (g.2 0, 60, .inl f56)), (q46, .inl (g.2 0, 60, .inl f56)), (q47, .inl (g.2 0, 20, .inl f71))]) (rV (rest := []) hx hb hml hown hE hP hD 4 rfl rfl (c2114_X6_instrumentNumber l g q23 q36 (.ref q33) (.ref q34) (.ref q35) (.int 0) (.int 4) (.int 0) f71 (hf72) H.size) (kV_X6_instrumentNumber hE (e1010 hE) rfl rfl ⟨(Nat.le_of_ble_eq_true rfl), (Nat.le_of_ble_eq_true rfl)⟩) [19, 4] rfl (by decide) rfl hl.1 rfl (lv_room (Nat.le_of_ble_eq_true rfl)) dX9_setPriority_22 ⟨(Nat.le_of_ble_eq_true rfl), (Nat.le_of_ble_eq_true rfl)⟩) hP hD hS hA [19, 4] [0, 1, 2, 3, 5, 6, 7, 8, 9, 10, 11, 12, 13, 14, 15, 16, 17, 18, 20] rfl rfl (by decide) (by decide) (fun u4 H locs hP hD hS => ?_)
  have hP : va_P g.1 vwCl [(q1, .inr (11, [.ref q16, w6, w7, w8, w9, w10, w11, w12, w13, w14, w15])), (q20, .inl (g.2 3, 10, .inr (.inr (.inr (.inr f21))))), (q16, .inr (10, [.ref q20, .int 0, .int 0])), (q25, .inr (8, [.ref q44, .ref q45, .ref q46, .ref q47, .int 0, .int 4, .int 0])), (q33, .inr (5, [.ref q54, .ref q55])), (q44, .inr (5, [.ref q50, .ref q51])), (q54, .inl (g.2 0, 384, .inl f56)), (q50, .inl (g.2 0, 384, .inl f56)), (q55, .inl (g.2 0, 40, .inl f57)), (q51, .inl (g.2 0, 40, .inl f57)), (q34, .inr (9, [.ref q68, .ref q69, .int 1, .int 0])), (q45, .inr (9, [.ref q62, .ref q63, .int 1, .int 0])), (q68, .inl (g.2 0, 10, .inl f56)), (q62, .inl (g.2 0, 10, .inl f56)), (q69, .inl (g.2 0, 10, .inl f70)), (q63, .inl (g.2 0, 10, .inl f70)), (q35, .inl (g.2 0, 60, .inl f56)), (q46, .inl (g.2 0, 60, .inl f56)), (q47, .inl (g.2 0, 20, .inl f71)), (q36, .inl (g.2 0, 20, .inl f71)), (q23, .inr (8, [.ref q33, .ref q34, .ref q35, .ref q36, .int 0, .int 4, .int 0]))] H := hP
  have hD : va_D A [(q1, .inr (11, [.ref q16, w6, w7, w8, w9, w10, w11, w12, w13, w14, w15])), (q20, .inl (g.2 3, 10, .inr (.inr (.inr (.inr f21))))), (q16, .inr (10, [.ref q20, .int 0, .int 0])), (q25, .inr (8, [.ref q44, .ref q45, .ref q46, .ref q47, .int 0, .int 4, .int 0])), (q33, .inr (5, [.ref q54, .ref q55])), (q44, .inr (5, [.ref q50, .ref q51])), (q54, .inl (g.2 0, 384, .inl f56)), (q50, .inl (g.2 0, 384, .inl f56)), (q55, .inl (g.2 0, 40, .inl f57)), (q51, .inl (g.2 0, 40, .inl f57)), (q34, .inr (9, [.ref q68, .ref q69, .int 1, .int 0])), (q45, .inr (9, [.ref q62, .ref q63, .int 1, .int 0])), (q68, .inl (g.2 0, 10, .inl f56)), (q62, .inl (g.2 0, 10, .inl f56)), (q69, .inl (g.2 0, 10, .inl f70)), (q63, .inl (g.2 0, 10, .inl f70)), (q35, .inl (g.2 0, 60, .inl f56)), (q46, .inl (g.2 0, 60, .inl f56)), (q47, .inl (g.2 0, 20, .inl f71)), (q36, .inl (g.2 0, 20, .inl f71)), (q23, .inr (8, [.ref q33, .ref q34, .ref q35, .ref q36, .int 0, .int 4, .int 0]))] := hD
  refine lv_istore (lv' := [(4, .int 5), (3, .ref q23), (0, .ref q1), (1, .int 0), (2, .int x2)]) hx hb dX9_setPriority_25 hl (by decide) rfl (fun ls hl => ?_)
  refine lv_aload_n hx hb dX9_setPriority_27 rfl (lv_at hl 1 rfl) ?_
  refine lv_iload_n hx hb dX9_setPriority_28 rfl (lv_at hl 3 rfl) ?_
  refine lv_iconst (v := 4) hx hb dX9_setPriority_29 (by decide) ?_
  refine lv_iload_n hx hb dX9_setPriority_30 rfl (lv_at hl 4 rfl) ?_
  refine g_v (wr := [(q1, .inr (11, [.ref q16, w6, w7, w8, w9, w10, w11, w12, w13, w14, w15])), (q20, .inl (g.2 3, 10, .inr (.inr (.inr (.inr f21))))), (q16, .inr (10, [.ref q20, .int 0, .int 0])), (q25, .inr (8, [.ref q44, .ref q45, .ref q46, .ref q47, .int 0, .int 4, .int 0])), (q33, .inr (5, [.ref q54, .ref q55])), (q44, .inr (5, [.ref q50, .ref q51])), (q54, .inl (g.2 0, 384, .inl f56)), (q50, .inl (g.2 0, 384, .inl f56)), (q55, .inl (g.2 0, 40, .inl f57)), (q51, .inl (g.2 0, 40, .inl f57)), (q34, .inr (9, [.ref q68, .ref q69, .int 1, .int 0])), (q45, .inr (9, [.ref q62, .ref q63, .int 1, .int 0])), (q68, .inl (g.2 0, 10, .inl f56)), (q62, .inl (g.2 0, 10, .inl f56)), (q69, .inl (g.2 0, 10, .inl f70)), (q63, .inl (g.2 0, 10, .inl f70)), (q35, .inl (g.2 0, 60, .inl f56)), (q46, .inl (g.2 0, 60, .inl f56)), (q47, .inl (g.2 0, 20, .inl f71))]) (rV (rest := []) hx hb hml hown hE hP hD 20 rfl rfl (c2116_X6_putInstrumentNumber l g q23 q36 x2 (.ref q33) (.ref q34) (.ref q35) (.int 0) (.int 4) (.int 0) f71 H.size) (kV_X6_putInstrumentNumber hE (e1011 hE) rfl rfl ⟨(Nat.le_of_ble_eq_true rfl), (Nat.le_of_ble_eq_true rfl)⟩) [19, 20] rfl (by decide) rfl hl.1 rfl (lv_room (Nat.le_of_ble_eq_true rfl)) dX9_setPriority_31 ⟨(Nat.le_of_ble_eq_true rfl), (Nat.le_of_ble_eq_true rfl)⟩) hP hD hS hA [19, 20] [0, 1, 2, 3, 4, 5, 6, 7, 8, 9, 10, 11, 12, 13, 14, 15, 16, 17, 18] rfl rfl (by decide) (by decide) (fun u5 H locs hP hD hS => ?_)
  have hP : va_P g.1 vwCl [(q1, .inr (11, [.ref q16, w6, w7, w8, w9, w10, w11, w12, w13, w14, w15])), (q20, .inl (g.2 3, 10, .inr (.inr (.inr (.inr f21))))), (q16, .inr (10, [.ref q20, .int 0, .int 0])), (q25, .inr (8, [.ref q44, .ref q45, .ref q46, .ref q47, .int 0, .int 4, .int 0])), (q33, .inr (5, [.ref q54, .ref q55])), (q44, .inr (5, [.ref q50, .ref q51])), (q54, .inl (g.2 0, 384, .inl f56)), (q50, .inl (g.2 0, 384, .inl f56)), (q55, .inl (g.2 0, 40, .inl f57)), (q51, .inl (g.2 0, 40, .inl f57)), (q34, .inr (9, [.ref q68, .ref q69, .int 1, .int 0])), (q45, .inr (9, [.ref q62, .ref q63, .int 1, .int 0])), (q68, .inl (g.2 0, 10, .inl f56)), (q62, .inl (g.2 0, 10, .inl f56)), (q69, .inl (g.2 0, 10, .inl f70)), (q63, .inl (g.2 0, 10, .inl f70)), (q35, .inl (g.2 0, 60, .inl f56)), (q46, .inl (g.2 0, 60, .inl f56)), (q47, .inl (g.2 0, 20, .inl f71)), (q23, .inr (8, [.ref q33, .ref q34, .ref q35, .ref q36, .int 0, .int 4, .int 0])), (q36, .inl (g.2 0, 20, .inl (upd f71 4 x2)))] H := hP
  have hD : va_D A [(q1, .inr (11, [.ref q16, w6, w7, w8, w9, w10, w11, w12, w13, w14, w15])), (q20, .inl (g.2 3, 10, .inr (.inr (.inr (.inr f21))))), (q16, .inr (10, [.ref q20, .int 0, .int 0])), (q25, .inr (8, [.ref q44, .ref q45, .ref q46, .ref q47, .int 0, .int 4, .int 0])), (q33, .inr (5, [.ref q54, .ref q55])), (q44, .inr (5, [.ref q50, .ref q51])), (q54, .inl (g.2 0, 384, .inl f56)), (q50, .inl (g.2 0, 384, .inl f56)), (q55, .inl (g.2 0, 40, .inl f57)), (q51, .inl (g.2 0, 40, .inl f57)), (q34, .inr (9, [.ref q68, .ref q69, .int 1, .int 0])), (q45, .inr (9, [.ref q62, .ref q63, .int 1, .int 0])), (q68, .inl (g.2 0, 10, .inl f56)), (q62, .inl (g.2 0, 10, .inl f56)), (q69, .inl (g.2 0, 10, .inl f70)), (q63, .inl (g.2 0, 10, .inl f70)), (q35, .inl (g.2 0, 60, .inl f56)), (q46, .inl (g.2 0, 60, .inl f56)), (q47, .inl (g.2 0, 20, .inl f71)), (q23, .inr (8, [.ref q33, .ref q34, .ref q35, .ref q36, .int 0, .int 4, .int 0])), (q36, .inl (g.2 0, 20, .inl (upd f71 4 x2)))] := hD
  refine lv_aload_n hx hb dX9_setPriority_34 rfl (lv_at hl 2 rfl) ?_
  refine g_v (wr := [(q20, .inl (g.2 3, 10, .inr (.inr (.inr (.inr f21))))), (q25, .inr (8, [.ref q44, .ref q45, .ref q46, .ref q47, .int 0, .int 4, .int 0])), (q33, .inr (5, [.ref q54, .ref q55])), (q44, .inr (5, [.ref q50, .ref q51])), (q54, .inl (g.2 0, 384, .inl f56)), (q50, .inl (g.2 0, 384, .inl f56)), (q55, .inl (g.2 0, 40, .inl f57)), (q51, .inl (g.2 0, 40, .inl f57)), (q34, .inr (9, [.ref q68, .ref q69, .int 1, .int 0])), (q45, .inr (9, [.ref q62, .ref q63, .int 1, .int 0])), (q68, .inl (g.2 0, 10, .inl f56)), (q62, .inl (g.2 0, 10, .inl f56)), (q69, .inl (g.2 0, 10, .inl f70)), (q63, .inl (g.2 0, 10, .inl f70)), (q35, .inl (g.2 0, 60, .inl f56)), (q46, .inl (g.2 0, 60, .inl f56)), (q47, .inl (g.2 0, 20, .inl f71)), (q23, .inr (8, [.ref q33, .ref q34, .ref q35, .ref q36, .int 0, .int 4, .int 0])), (q36, .inl (g.2 0, 20, .inl (upd f71 4 x2)))]) (rV (rest := []) hx hb hml hown hE hP hD 0 rfl rfl (c191_X9_accept l g q1 q16 w6 w7 w8 w9 w10 w11 w12 w13 w14 w15 (.ref q20) H.size) (kV_X9_accept hE (e718 hE) rfl rfl ⟨(Nat.le_of_ble_eq_true rfl), (Nat.le_of_ble_eq_true rfl)⟩) [2, 0] rfl (by decide) rfl hl.1 rfl (lv_room (Nat.le_of_ble_eq_true rfl)) dX9_setPriority_35 ⟨(Nat.le_of_ble_eq_true rfl), (Nat.le_of_ble_eq_true rfl)⟩) hP hD hS hA [2, 0] [1, 3, 4, 5, 6, 7, 8, 9, 10, 11, 12, 13, 14, 15, 16, 17, 18, 19, 20] rfl rfl (by decide) (by decide) (fun u6 H locs hP hD hS => ?_)
  have hP : va_P g.1 vwCl [(q20, .inl (g.2 3, 10, .inr (.inr (.inr (.inr f21))))), (q25, .inr (8, [.ref q44, .ref q45, .ref q46, .ref q47, .int 0, .int 4, .int 0])), (q33, .inr (5, [.ref q54, .ref q55])), (q44, .inr (5, [.ref q50, .ref q51])), (q54, .inl (g.2 0, 384, .inl f56)), (q50, .inl (g.2 0, 384, .inl f56)), (q55, .inl (g.2 0, 40, .inl f57)), (q51, .inl (g.2 0, 40, .inl f57)), (q34, .inr (9, [.ref q68, .ref q69, .int 1, .int 0])), (q45, .inr (9, [.ref q62, .ref q63, .int 1, .int 0])), (q68, .inl (g.2 0, 10, .inl f56)), (q62, .inl (g.2 0, 10, .inl f56)), (q69, .inl (g.2 0, 10, .inl f70)), (q63, .inl (g.2 0, 10, .inl f70)), (q35, .inl (g.2 0, 60, .inl f56)), (q46, .inl (g.2 0, 60, .inl f56)), (q47, .inl (g.2 0, 20, .inl f71)), (q23, .inr (8, [.ref q33, .ref q34, .ref q35, .ref q36, .int 0, .int 4, .int 0])), (q36, .inl (g.2 0, 20, .inl (upd f71 4 x2))), (q16, .inr (10, [.ref q20, .int 1, .int 1])), (q1, .inr (11, [.ref q16, w6, w7, w8, w9, w10, w11, w12, .int 0, .int 0, w15]))] H := hP
  have hD : va_D A [(q20, .inl (g.2 3, 10, .inr (.inr (.inr (.inr f21))))), (q25, .inr (8, [.ref q44, .ref q45, .ref q46, .ref q47, .int 0, .int 4, .int 0])), (q33, .inr (5, [.ref q54, .ref q55])), (q44, .inr (5, [.ref q50, .ref q51])), (q54, .inl (g.2 0, 384, .inl f56)), (q50, .inl (g.2 0, 384, .inl f56)), (q55, .inl (g.2 0, 40, .inl f57)), (q51, .inl (g.2 0, 40, .inl f57)), (q34, .inr (9, [.ref q68, .ref q69, .int 1, .int 0])), (q45, .inr (9, [.ref q62, .ref q63, .int 1, .int 0])), (q68, .inl (g.2 0, 10, .inl f56)), (q62, .inl (g.2 0, 10, .inl f56)), (q69, .inl (g.2 0, 10, .inl f70)), (q63, .inl (g.2 0, 10, .inl f70)), (q35, .inl (g.2 0, 60, .inl f56)), (q46, .inl (g.2 0, 60, .inl f56)), (q47, .inl (g.2 0, 20, .inl f71)), (q23, .inr (8, [.ref q33, .ref q34, .ref q35, .ref q36, .int 0, .int 4, .int 0])), (q36, .inl (g.2 0, 20, .inl (upd f71 4 x2))), (q16, .inr (10, [.ref q20, .int 1, .int 1])), (q1, .inr (11, [.ref q16, w6, w7, w8, w9, w10, w11, w12, .int 0, .int 0, w15]))] := hD
  refine lv_iload hx hb dX9_setPriority_38 (lv_at hl 0 rfl) ?_
  exact x_zret hx hb hr rfl rfl hlocks hP hD hS hAe hsz (Nat.le_of_ble_eq_true rfl) (Nat.le_of_ble_eq_true rfl) (fun _ => 0) [0, 1, 2, 3, 4, 5, 6, 7, 8, 9, 10, 11, 12, 13, 14, 15, 16, 17, 18, 19, 20] (by decide) rfl dX9_setPriority_40

set_option maxHeartbeats 4000000 in
set_option maxRecDepth 100000 in
theorem c2118_L_setPriority (l : Launch) (g : gG) (hlx : l.stackTraces = false) (q1 q3 q17 q21 q24 q26 q34 q35 q36 q37 q45 q46 q47 q48 q51 q52 q55 q56 q63 q64 q69 q70 : Nat) (x2 : Int32) (w7 w8 w9 w10 w11 w12 w13 w14 w15 w16 w31 w32 w33 w67 w68 : Value) (f22 : Nat → Option Nat) (f57 : Nat → Int32) (f58 : Nat → Int32) (f71 : Nat → Int32) (f72 : Nat → Int32) (f74 : Nat → Int64) (hf23 : f22 1 = some q24) (hf25 : f22 0 = some q26) (hf73 : f72 4 = 5) (h4 : (0 : Int32) ≤ x2) (h5 : x2 ≤ 9) (sz : Nat) : Met l yL_setPriority [Cond.codeWith yL_setPriority cL_setPriority 5 (some .int) [(0, 10, 13, 13), (0, 10, 17, 15)]] ({ frames := 6, cells := 0, slots := 0, locals := 172 } : Room) (va_Pc [.ref q1, .int 0, .int x2, .ref q3] (PZ g sz [(q3, .inl (g.2 1, 1, .inr (.inl f74))), (q37, .inl (g.2 0, 20, .inl f72)), (q48, .inl (g.2 0, 20, .inl f72)), (q36, .inl (g.2 0, 60, .inl f57)), (q47, .inl (g.2 0, 60, .inl f57)), (q70, .inl (g.2 0, 10, .inl f71)), (q64, .inl (g.2 0, 10, .inl f71)), (q69, .inl (g.2 0, 10, .inl f57)), (q63, .inl (g.2 0, 10, .inl f57)), (q35, .inr (9, [.ref q69, .ref q70, w67, w68])), (q46, .inr (9, [.ref q63, .ref q64, .int 1, .int 0])), (q56, .inl (g.2 0, 40, .inl f58)), (q52, .inl (g.2 0, 40, .inl f58)), (q55, .inl (g.2 0, 384, .inl f57)), (q51, .inl (g.2 0, 384, .inl f57)), (q34, .inr (5, [.ref q55, .ref q56])), (q45, .inr (5, [.ref q51, .ref q52])), (q26, .inr (8, [.ref q45, .ref q46, .ref q47, .ref q48, .int 0, .int 4, .int 0])), (q24, .inr (8, [.ref q34, .ref q35, .ref q36, .ref q37, w31, w32, w33])), (q21, .inl (g.2 3, 10, .inr (.inr (.inr (.inr f22))))), (q17, .inr (10, [.ref q21, .int 0, .int 0])), (q1, .inr (11, [.ref q17, w7, w8, w9, w10, w11, w12, w13, w14, w15, w16]))])) (QI g [(q3, .inl (g.2 1, 1, .inr (.inl f74))), (q37, .inl (g.2 0, 20, .inl f72)), (q48, .inl (g.2 0, 20, .inl f72)), (q36, .inl (g.2 0, 60, .inl f57)), (q47, .inl (g.2 0, 60, .inl f57)), (q70, .inl (g.2 0, 10, .inl f71)), (q64, .inl (g.2 0, 10, .inl f71)), (q69, .inl (g.2 0, 10, .inl f57)), (q63, .inl (g.2 0, 10, .inl f57)), (q35, .inr (9, [.ref q69, .ref q70, w67, w68])), (q46, .inr (9, [.ref q63, .ref q64, .int 1, .int 0])), (q56, .inl (g.2 0, 40, .inl f58)), (q52, .inl (g.2 0, 40, .inl f58)), (q55, .inl (g.2 0, 384, .inl f57)), (q51, .inl (g.2 0, 384, .inl f57)), (q34, .inr (5, [.ref q55, .ref q56])), (q45, .inr (5, [.ref q51, .ref q52])), (q26, .inr (8, [.ref q45, .ref q46, .ref q47, .ref q48, .int 0, .int 4, .int 0])), (q24, .inr (8, [.ref q34, .ref q35, .ref q36, .ref q37, w31, w32, w33])), (q21, .inl (g.2 3, 10, .inr (.inr (.inr (.inr f22))))), (q17, .inr (10, [.ref q21, .int 0, .int 0])), (q1, .inr (11, [.ref q17, w7, w8, w9, w10, w11, w12, w13, w14, w15, w16]))] sz 0 (fun _ => [(q3, .inl (g.2 1, 1, .inr (.inl (vp_updL f74 0 5))))])) 0 0 (va_A [(q3, .inl (g.2 1, 1, .inr (.inl f74))), (q37, .inl (g.2 0, 20, .inl f72)), (q48, .inl (g.2 0, 20, .inl f72)), (q36, .inl (g.2 0, 60, .inl f57)), (q47, .inl (g.2 0, 60, .inl f57)), (q70, .inl (g.2 0, 10, .inl f71)), (q64, .inl (g.2 0, 10, .inl f71)), (q69, .inl (g.2 0, 10, .inl f57)), (q63, .inl (g.2 0, 10, .inl f57)), (q35, .inr (9, [.ref q69, .ref q70, w67, w68])), (q46, .inr (9, [.ref q63, .ref q64, .int 1, .int 0])), (q56, .inl (g.2 0, 40, .inl f58)), (q52, .inl (g.2 0, 40, .inl f58)), (q55, .inl (g.2 0, 384, .inl f57)), (q51, .inl (g.2 0, 384, .inl f57)), (q34, .inr (5, [.ref q55, .ref q56])), (q45, .inr (5, [.ref q51, .ref q52])), (q26, .inr (8, [.ref q45, .ref q46, .ref q47, .ref q48, .int 0, .int 4, .int 0])), (q24, .inr (8, [.ref q34, .ref q35, .ref q36, .ref q37, w31, w32, w33])), (q21, .inl (g.2 3, 10, .inr (.inr (.inr (.inr f22))))), (q17, .inr (10, [.ref q21, .int 0, .int 0])), (q1, .inr (11, [.ref q17, w7, w8, w9, w10, w11, w12, w13, w14, w15, w16]))] sz) := by
  refine ofH (by decide) (Nat.le_of_ble_eq_true rfl) rfl ?_
  intro p e s m args below meth c A ls hAe hsz hx hb hml hr hlocks hin hown hE hP hD hA hS hl htb hz
  have hown : s.vm.findClass RL = some m.cls := hown
  refine lv_aload_n hx hb dL_setPriority_0 rfl (lv_at hl 3 rfl) ?_
  refine lv_iconst (v := 0) hx hb dL_setPriority_1 (by decide) ?_
  refine lv_aload_n hx hb dL_setPriority_2 rfl (lv_at hl 0 rfl) ?_
  refine lv_iload_n hx hb dL_setPriority_3 rfl (lv_at hl 1 rfl) ?_
  refine lv_iload_n hx hb dL_setPriority_4 rfl (lv_at hl 2 rfl) ?_
  refine g_i (wr := [(q3, .inl (g.2 1, 1, .inr (.inl f74)))]) (rV (rest := [.int 0, .ref q3]) hx hb hml hown hE hP hD 21 rfl rfl (c2117_X9_setPriority l g q1 q17 q21 q24 q26 q34 q35 q36 q37 q45 q46 q47 q48 q51 q52 q55 q56 q63 q64 q69 q70 x2 w7 w8 w9 w10 w11 w12 w13 w14 w15 w16 w31 w32 w33 w67 w68 f22 f57 f58 f71 f72 (hf23) (hf25) (hf73) h4 h5 s.heap.size) (kV_X9_setPriority hE (e1006 hE) rfl rfl ⟨(Nat.le_of_ble_eq_true rfl), (Nat.le_of_ble_eq_true rfl)⟩) [1, 2, 3, 4, 5, 6, 7, 8, 9, 10, 11, 12, 13, 14, 15, 16, 17, 18, 19, 20, 21] rfl (by decide) rfl hl.1 rfl (lv_room (Nat.le_of_ble_eq_true rfl)) dL_setPriority_5 ⟨(Nat.le_of_ble_eq_true rfl), (Nat.le_of_ble_eq_true rfl)⟩) hP hD hS hA [1, 2, 3, 4, 5, 6, 7, 8, 9, 10, 11, 12, 13, 14, 15, 16, 17, 18, 19, 20, 21] [0] rfl rfl (by decide) (by decide) (fun u1 H locs hP hD hS => ?_)
  have hP : va_P g.1 vwCl [(q3, .inl (g.2 1, 1, .inr (.inl f74))), (q21, .inl (g.2 3, 10, .inr (.inr (.inr (.inr f22))))), (q26, .inr (8, [.ref q45, .ref q46, .ref q47, .ref q48, .int 0, .int 4, .int 0])), (q34, .inr (5, [.ref q55, .ref q56])), (q45, .inr (5, [.ref q51, .ref q52])), (q55, .inl (g.2 0, 384, .inl f57)), (q51, .inl (g.2 0, 384, .inl f57)), (q56, .inl (g.2 0, 40, .inl f58)), (q52, .inl (g.2 0, 40, .inl f58)), (q35, .inr (9, [.ref q69, .ref q70, .int 1, .int 0])), (q46, .inr (9, [.ref q63, .ref q64, .int 1, .int 0])), (q69, .inl (g.2 0, 10, .inl f57)), (q63, .inl (g.2 0, 10, .inl f57)), (q70, .inl (g.2 0, 10, .inl f71)), (q64, .inl (g.2 0, 10, .inl f71)), (q36, .inl (g.2 0, 60, .inl f57)), (q47, .inl (g.2 0, 60, .inl f57)), (q48, .inl (g.2 0, 20, .inl f72)), (q24, .inr (8, [.ref q34, .ref q35, .ref q36, .ref q37, .int 0, .int 4, .int 0])), (q37, .inl (g.2 0, 20, .inl (upd f72 4 x2))), (q17, .inr (10, [.ref q21, .int 1, .int 1])), (q1, .inr (11, [.ref q17, w7, w8, w9, w10, w11, w12, w13, .int 0, .int 0, w16]))] H := hP
  have hD : va_D A [(q3, .inl (g.2 1, 1, .inr (.inl f74))), (q21, .inl (g.2 3, 10, .inr (.inr (.inr (.inr f22))))), (q26, .inr (8, [.ref q45, .ref q46, .ref q47, .ref q48, .int 0, .int 4, .int 0])), (q34, .inr (5, [.ref q55, .ref q56])), (q45, .inr (5, [.ref q51, .ref q52])), (q55, .inl (g.2 0, 384, .inl f57)), (q51, .inl (g.2 0, 384, .inl f57)), (q56, .inl (g.2 0, 40, .inl f58)), (q52, .inl (g.2 0, 40, .inl f58)), (q35, .inr (9, [.ref q69, .ref q70, .int 1, .int 0])), (q46, .inr (9, [.ref q63, .ref q64, .int 1, .int 0])), (q69, .inl (g.2 0, 10, .inl f57)), (q63, .inl (g.2 0, 10, .inl f57)), (q70, .inl (g.2 0, 10, .inl f71)), (q64, .inl (g.2 0, 10, .inl f71)), (q36, .inl (g.2 0, 60, .inl f57)), (q47, .inl (g.2 0, 60, .inl f57)), (q48, .inl (g.2 0, 20, .inl f72)), (q24, .inr (8, [.ref q34, .ref q35, .ref q36, .ref q37, .int 0, .int 4, .int 0])), (q37, .inl (g.2 0, 20, .inl (upd f72 4 x2))), (q17, .inr (10, [.ref q21, .int 1, .int 1])), (q1, .inr (11, [.ref q17, w7, w8, w9, w10, w11, w12, w13, .int 0, .int 0, w16]))] := hD
  refine lv_i2l (v := 5) hx hb dL_setPriority_8 (by decide) ?_
  refine x_last (ws' := [(q3, .inl (g.2 1, 1, .inr (.inl (vp_updL f74 0 5)))), (q21, .inl (g.2 3, 10, .inr (.inr (.inr (.inr f22))))), (q26, .inr (8, [.ref q45, .ref q46, .ref q47, .ref q48, .int 0, .int 4, .int 0])), (q34, .inr (5, [.ref q55, .ref q56])), (q45, .inr (5, [.ref q51, .ref q52])), (q55, .inl (g.2 0, 384, .inl f57)), (q51, .inl (g.2 0, 384, .inl f57)), (q56, .inl (g.2 0, 40, .inl f58)), (q52, .inl (g.2 0, 40, .inl f58)), (q35, .inr (9, [.ref q69, .ref q70, .int 1, .int 0])), (q46, .inr (9, [.ref q63, .ref q64, .int 1, .int 0])), (q69, .inl (g.2 0, 10, .inl f57)), (q63, .inl (g.2 0, 10, .inl f57)), (q70, .inl (g.2 0, 10, .inl f71)), (q64, .inl (g.2 0, 10, .inl f71)), (q36, .inl (g.2 0, 60, .inl f57)), (q47, .inl (g.2 0, 60, .inl f57)), (q48, .inl (g.2 0, 20, .inl f72)), (q24, .inr (8, [.ref q34, .ref q35, .ref q36, .ref q37, .int 0, .int 4, .int 0])), (q37, .inl (g.2 0, 20, .inl (upd f72 4 x2))), (q17, .inr (10, [.ref q21, .int 1, .int 1])), (q1, .inr (11, [.ref q17, w7, w8, w9, w10, w11, w12, w13, .int 0, .int 0, w16]))]) hx hb hE hP hD hS 0 rfl 0 (x_in (by decide)) (by decide) dL_setPriority_9 rfl (fun H locs hP hD hS => ?_)
  refine lv_goto (tgt := 21) hx hb dL_setPriority_10 (by decide) ?_
  refine lv_iconst (v := 0) hx hb dL_setPriority_21 (by decide) ?_
  exact x_zret hx hb hr rfl rfl hlocks hP hD hS hAe hsz (Nat.le_of_ble_eq_true rfl) (Nat.le_of_ble_eq_true rfl) (fun _ => 0) [0] (by decide) rfl dL_setPriority_22

set_option maxHeartbeats 4000000 in
set_option maxRecDepth 100000 in
theorem c2119_X10_in (l : Launch) (g : gG) (x1 : Int32) (h2 : (0 : Int32) ≤ x1) (h3 : x1 ≤ 9) (sz : Nat) : Met l yX10_in [Cond.code yX10_in cX10_in 3 (some .boolean)] ({ frames := 0, cells := 0, slots := 0, locals := 0 } : Room) (va_Pc [.int x1, .int 0, .int 9] (PX g sz [])) (QI g [] sz 1 (fun _ => [])) 0 0 (va_A [] sz) := by
  refine ofN (by decide) (Nat.le_of_ble_eq_true rfl) rfl ?_
  intro p e s m args below meth c A ls hAe hsz hx hb hml hr hlocks hin hown hE hP hD hA hS hl
  have hown : s.vm.findClass RX10 = some m.cls := hown
  refine lv_iload_n hx hb dX10_in_0 rfl (lv_at hl 0 rfl) ?_
  refine lv_iload_n hx hb dX10_in_1 rfl (lv_at hl 1 rfl) ?_
  refine lv_icmp_lt (tgt := 14) hx hb dX10_in_2 (by decide) (fun h => absurd h (i_nlt h2)) (fun _ => ?_)
  refine lv_iload_n hx hb dX10_in_5 rfl (lv_at hl 0 rfl) ?_
  refine lv_iload_n hx hb dX10_in_6 rfl (lv_at hl 2 rfl) ?_
  refine lv_icmp_gt (tgt := 14) hx hb dX10_in_7 (by decide) (fun h => absurd h (i_nlt h3)) (fun _ => ?_)
  refine lv_iconst (v := 1) hx hb dX10_in_10 (by decide) ?_
  refine lv_goto (tgt := 15) hx hb dX10_in_11 (by decide) ?_
  exact x_zret hx hb hr rfl rfl hlocks hP hD hS hAe hsz (Nat.le_of_ble_eq_true rfl) (Nat.le_of_ble_eq_true rfl) (fun _ => 0) [] (by decide) rfl dX10_in_15

set_option maxHeartbeats 4000000 in
set_option maxRecDepth 100000 in
theorem c2120_X10_sets (l : Launch) (g : gG) (q1 q42 q43 q44 : Nat) (x2 : Int32) (w6 w8 w11 w12 w13 w14 w15 w16 w17 w18 w19 w20 w21 w22 w23 w24 w25 w26 w27 w28 w29 w30 w31 w32 w33 w34 w35 w36 w37 w38 w39 w40 w41 : Value) (f45 : Nat → Int32) (f46 : Nat → Int32) (hf47 : f45 478 = 5) (h3 : (0 : Int32) ≤ x2) (h4 : x2 ≤ 9) (sz : Nat) : Met l yX10_sets [Cond.code yX10_sets cX10_sets 7 (some .int)] ({ frames := 2, cells := 0, slots := 0, locals := 41 } : Room) (va_Pc [.ref q1, .int 478, .int x2, .int 0, .int 9, .int 2] (PX g sz [(q44, .inl (g.2 0, 3976, .inl f46)), (q43, .inl (g.2 0, 497, .inl f46)), (q42, .inl (g.2 0, 497, .inl f45)), (q1, .inr (12, [.ref q42, w6, .ref q43, w8, .ref q44, .int 0, w11, w12, w13, w14, w15, w16, w17, w18, w19, w20, w21, w22, w23, w24, w25, w26, w27, w28, w29, w30, w31, w32, w33, w34, w35, w36, w37, w38, w39, w40, w41]))])) (QI g [(q44, .inl (g.2 0, 3976, .inl f46)), (q43, .inl (g.2 0, 497, .inl f46)), (q42, .inl (g.2 0, 497, .inl f45)), (q1, .inr (12, [.ref q42, w6, .ref q43, w8, .ref q44, .int 0, w11, w12, w13, w14, w15, w16, w17, w18, w19, w20, w21, w22, w23, w24, w25, w26, w27, w28, w29, w30, w31, w32, w33, w34, w35, w36, w37, w38, w39, w40, w41]))] sz 5 (fun _ => [(q42, .inl (g.2 0, 497, .inl (upd f45 478 x2))), (q44, .inl (g.2 0, 3976, .inl (cpF 497 (cpF 497 f45 f46) f46))), (q43, .inl (g.2 0, 497, .inl (cpF 497 f45 f46))), (q1, .inr (12, [.ref q42, w6, .ref q43, w8, .ref q44, .int 1, .int 0, w12, w13, w14, w15, w16, w17, w18, w19, w20, w21, w22, w23, w24, w25, w26, w27, w28, w29, w30, w31, w32, w33, w34, w35, w36, w37, w38, w39, w40, w41]))])) 0 0 (va_A [(q44, .inl (g.2 0, 3976, .inl f46)), (q43, .inl (g.2 0, 497, .inl f46)), (q42, .inl (g.2 0, 497, .inl f45)), (q1, .inr (12, [.ref q42, w6, .ref q43, w8, .ref q44, .int 0, w11, w12, w13, w14, w15, w16, w17, w18, w19, w20, w21, w22, w23, w24, w25, w26, w27, w28, w29, w30, w31, w32, w33, w34, w35, w36, w37, w38, w39, w40, w41]))] sz) := by
  refine ofN (by decide) (Nat.le_of_ble_eq_true rfl) rfl ?_
  intro p e s m args below meth c A ls hAe hsz hx hb hml hr hlocks hin hown hE hP hD hA hS hl
  have hown : s.vm.findClass RX10 = some m.cls := hown
  refine lv_aload_n hx hb dX10_sets_0 rfl (lv_at hl 0 rfl) ?_
  refine lv_iload_n hx hb dX10_sets_1 rfl (lv_at hl 2 rfl) ?_
  refine lv_iload_n hx hb dX10_sets_2 rfl (lv_at hl 3 rfl) ?_
  refine lv_iload hx hb dX10_sets_3 (lv_at hl 4 rfl) ?_
  refine g0_i (rS (rest := [.ref q1]) hx hb hml hown hE hP hD (c2119_X10_in l g x2 h3 h4 s.heap.size) (kS_X10_in hE (e1431 hE) rfl rfl ⟨(Nat.le_of_ble_eq_true rfl), (Nat.le_of_ble_eq_true rfl)⟩) [] rfl (by decide) rfl hl.1 rfl (lv_room (Nat.le_of_ble_eq_true rfl)) dX10_sets_5 ⟨(Nat.le_of_ble_eq_true rfl), (Nat.le_of_ble_eq_true rfl)⟩) hP hD hS hA (fun u9 H locs hP hS => ?_)
  refine lv_if_eq (tgt := 15) hx hb dX10_sets_8 (by decide) (fun h => absurd h (by decide)) (fun _ => ?_)
  refine lv_iconst (v := 0) hx hb dX10_sets_11 (by decide) ?_
  refine lv_goto (tgt := 17) hx hb dX10_sets_12 (by decide) ?_
  refine pf_RX10_86 (ws' := [(q44, .inl (g.2 0, 3976, .inl f46)), (q43, .inl (g.2 0, 497, .inl f46)), (q42, .inl (g.2 0, 497, .inl f45)), (q1, .inr (12, [.ref q42, w6, .ref q43, w8, .ref q44, .int 0, .int 0, w12, w13, w14, w15, w16, w17, w18, w19, w20, w21, w22, w23, w24, w25, w26, w27, w28, w29, w30, w31, w32, w33, w34, w35, w36, w37, w38, w39, w40, w41]))]) hx hb hown hE hP hD hS 3 rfl rfl rfl (Nat.le_of_ble_eq_true rfl) dX10_sets_17 rfl (fun H locs hP hD hS => ?_)
  refine lv_aload_n hx hb dX10_sets_20 rfl (lv_at hl 0 rfl) ?_
  refine gf_RX10_86 hx hb hown hE hP 3 rfl rfl dX10_sets_21 ?_
  refine lv_if_le (tgt := 29) hx hb dX10_sets_24 (by decide) (fun _ => ?_) (fun h => absurd (by decide) h)
  refine lv_aload_n hx hb dX10_sets_29 rfl (lv_at hl 0 rfl) ?_
  refine g_v (wr := []) (rV (rest := []) hx hb hml hown hE hP hD 3 rfl rfl (c1714_X10_keepNow l g q1 q42 q43 q44 w6 w8 (.int 0) w12 w13 w14 w15 w16 w17 w18 w19 w20 w21 w22 w23 w24 w25 w26 w27 w28 w29 w30 w31 w32 w33 w34 w35 w36 w37 w38 w39 w40 w41 f45 f46 H.size) (kV_X10_keepNow hE (e1494 hE) rfl rfl ⟨(Nat.le_of_ble_eq_true rfl), (Nat.le_of_ble_eq_true rfl)⟩) [0, 1, 2, 3] rfl (by decide) rfl hl.1 rfl (lv_room (Nat.le_of_ble_eq_true rfl)) dX10_sets_30 ⟨(Nat.le_of_ble_eq_true rfl), (Nat.le_of_ble_eq_true rfl)⟩) hP hD hS hA [0, 1, 2, 3] [] rfl rfl (by decide) (by decide) (fun u2 H locs hP hD hS => ?_)
  have hP : va_P g.1 vwCl [(q42, .inl (g.2 0, 497, .inl f45)), (q44, .inl (g.2 0, 3976, .inl (cpF 497 (cpF 497 f45 f46) f46))), (q43, .inl (g.2 0, 497, .inl (cpF 497 f45 f46))), (q1, .inr (12, [.ref q42, w6, .ref q43, w8, .ref q44, .int 1, .int 0, w12, w13, w14, w15, w16, w17, w18, w19, w20, w21, w22, w23, w24, w25, w26, w27, w28, w29, w30, w31, w32, w33, w34, w35, w36, w37, w38, w39, w40, w41]))] H := hP
  have hD : va_D A [(q42, .inl (g.2 0, 497, .inl f45)), (q44, .inl (g.2 0, 3976, .inl (cpF 497 (cpF 497 f45 f46) f46))), (q43, .inl (g.2 0, 497, .inl (cpF 497 f45 f46))), (q1, .inr (12, [.ref q42, w6, .ref q43, w8, .ref q44, .int 1, .int 0, w12, w13, w14, w15, w16, w17, w18, w19, w20, w21, w22, w23, w24, w25, w26, w27, w28, w29, w30, w31, w32, w33, w34, w35, w36, w37, w38, w39, w40, w41]))] := hD
  refine lv_aload_n hx hb dX10_sets_33 rfl (lv_at hl 0 rfl) ?_
  refine gf_RX10_9 hx hb hown hE hP 3 rfl rfl dX10_sets_34 ?_
  refine lv_iload_n hx hb dX10_sets_37 rfl (lv_at hl 1 rfl) ?_
  refine x_iald (v := 5) hx hb hE hP 0 rfl 478 (x_in (by decide)) (by decide) hf47 dX10_sets_38 ?_
  refine lv_istore (lv' := [(6, .int 5), (0, .ref q1), (1, .int 478), (2, .int x2), (3, .int 0), (4, .int 9), (5, .int 2)]) hx hb dX10_sets_39 hl (by decide) rfl (fun ls hl => ?_)
  refine lv_aload_n hx hb dX10_sets_41 rfl (lv_at hl 1 rfl) ?_
  refine gf_RX10_9 hx hb hown hE hP 3 rfl rfl dX10_sets_42 ?_
  refine lv_iload_n hx hb dX10_sets_45 rfl (lv_at hl 2 rfl) ?_
  refine lv_iload_n hx hb dX10_sets_46 rfl (lv_at hl 3 rfl) ?_
  refine x_iast (ws' := [(q42, .inl (g.2 0, 497, .inl (upd f45 478 x2))), (q44, .inl (g.2 0, 3976, .inl (cpF 497 (cpF 497 f45 f46) f46))), (q43, .inl (g.2 0, 497, .inl (cpF 497 f45 f46))), (q1, .inr (12, [.ref q42, w6, .ref q43, w8, .ref q44, .int 1, .int 0, w12, w13, w14, w15, w16, w17, w18, w19, w20, w21, w22, w23, w24, w25, w26, w27, w28, w29, w30, w31, w32, w33, w34, w35, w36, w37, w38, w39, w40, w41]))]) hx hb hE hP hD hS 0 rfl 478 (x_in (by decide)) (by decide) dX10_sets_47 rfl (fun H locs hP hD hS => ?_)
  refine lv_iload hx hb dX10_sets_48 (lv_at hl 0 rfl) ?_
  exact x_zret hx hb hr rfl rfl hlocks hP hD hS hAe hsz (Nat.le_of_ble_eq_true rfl) (Nat.le_of_ble_eq_true rfl) (fun _ => 0) [0, 1, 2, 3] (by decide) rfl dX10_sets_50

set_option maxHeartbeats 4000000 in
set_option maxRecDepth 100000 in
theorem c2121_X10_setPriority (l : Launch) (g : gG) (q1 q42 q43 q44 : Nat) (x2 : Int32) (w4 w6 w9 w10 w11 w12 w13 w14 w15 w16 w17 w18 w19 w20 w21 w22 w23 w24 w25 w26 w27 w28 w29 w30 w31 w32 w33 w34 w35 w36 w37 w38 w39 : Value) (f45 : Nat → Int32) (f46 : Nat → Int32) (hf47 : f45 478 = 5) (h40 : (0 : Int32) ≤ x2) (h41 : x2 ≤ 9) (sz : Nat) : Met l yX10_setPriority [Cond.code yX10_setPriority cX10_setPriority 3 (some .int)] ({ frames := 3, cells := 0, slots := 0, locals := 67 } : Room) (va_Pc [.ref q1, .int 0, .int x2] (PX g sz [(q44, .inl (g.2 0, 3976, .inl f46)), (q43, .inl (g.2 0, 497, .inl f46)), (q42, .inl (g.2 0, 497, .inl f45)), (q1, .inr (12, [.ref q42, w4, .ref q43, w6, .ref q44, .int 0, w9, w10, w11, w12, w13, w14, w15, w16, w17, w18, w19, w20, w21, w22, w23, w24, w25, w26, w27, w28, w29, w30, w31, w32, w33, w34, w35, w36, w37, w38, w39]))])) (QI g [(q44, .inl (g.2 0, 3976, .inl f46)), (q43, .inl (g.2 0, 497, .inl f46)), (q42, .inl (g.2 0, 497, .inl f45)), (q1, .inr (12, [.ref q42, w4, .ref q43, w6, .ref q44, .int 0, w9, w10, w11, w12, w13, w14, w15, w16, w17, w18, w19, w20, w21, w22, w23, w24, w25, w26, w27, w28, w29, w30, w31, w32, w33, w34, w35, w36, w37, w38, w39]))] sz 5 (fun _ => [(q1, .inr (12, [.ref q42, w4, .ref q43, w6, .ref q44, .int 1, .int 0, w10, w11, w12, w13, w14, w15, w16, w17, w18, w19, w20, w21, w22, w23, w24, w25, w26, w27, w28, w29, w30, w31, w32, w33, w34, w35, w36, w37, w38, w39]))])) 0 0 (va_A [(q44, .inl (g.2 0, 3976, .inl f46)), (q43, .inl (g.2 0, 497, .inl f46)), (q42, .inl (g.2 0, 497, .inl f45)), (q1, .inr (12, [.ref q42, w4, .ref q43, w6, .ref q44, .int 0, w9, w10, w11, w12, w13, w14, w15, w16, w17, w18, w19, w20, w21, w22, w23, w24, w25, w26, w27, w28, w29, w30, w31, w32, w33, w34, w35, w36, w37, w38, w39]))] sz) := by
  refine ofN (by decide) (Nat.le_of_ble_eq_true rfl) rfl ?_
  intro p e s m args below meth c A ls hAe hsz hx hb hml hr hlocks hin hown hE hP hD hA hS hl
  have hown : s.vm.findClass RX10 = some m.cls := hown
  refine lv_aload_n hx hb dX10_setPriority_0 rfl (lv_at hl 0 rfl) ?_
  refine lv_iconst (v := 1) hx hb dX10_setPriority_1 (by decide) ?_
  refine pf_RX10_86 (ws' := [(q44, .inl (g.2 0, 3976, .inl f46)), (q43, .inl (g.2 0, 497, .inl f46)), (q42, .inl (g.2 0, 497, .inl f45)), (q1, .inr (12, [.ref q42, w4, .ref q43, w6, .ref q44, .int 0, .int 1, w10, w11, w12, w13, w14, w15, w16, w17, w18, w19, w20, w21, w22, w23, w24, w25, w26, w27, w28, w29, w30, w31, w32, w33, w34, w35, w36, w37, w38, w39]))]) hx hb hown hE hP hD hS 3 rfl rfl rfl (Nat.le_of_ble_eq_true rfl) dX10_setPriority_2 rfl (fun H locs hP hD hS => ?_)
  refine lv_iload_n hx hb dX10_setPriority_5 rfl (lv_at hl 1 rfl) ?_
  refine g0_i (rS (rest := []) hx hb hml hown hE hP hD (c1857_X10_isInstrument l g 0 (by decide) (by decide) H.size) (kS_X10_isInstrument hE (e1645 hE) rfl rfl ⟨(Nat.le_of_ble_eq_true rfl), (Nat.le_of_ble_eq_true rfl)⟩) [] rfl (by decide) rfl hl.1 rfl (lv_room (Nat.le_of_ble_eq_true rfl)) dX10_setPriority_6 ⟨(Nat.le_of_ble_eq_true rfl), (Nat.le_of_ble_eq_true rfl)⟩) hP hD hS hA (fun u9 H locs hP hS => ?_)
  refine lv_if_eq (tgt := 33) hx hb dX10_setPriority_9 (by decide) (fun h => absurd h (by decide)) (fun _ => ?_)
  refine lv_aload_n hx hb dX10_setPriority_12 rfl (lv_at hl 0 rfl) ?_
  refine lv_sipush (v := 474) hx hb dX10_setPriority_13 (by decide) ?_
  refine lv_iconst (v := 5) hx hb dX10_setPriority_16 (by decide) ?_
  refine lv_iload_n hx hb dX10_setPriority_17 rfl (lv_at hl 1 rfl) ?_
  refine x_imul (v := 0) hx hb dX10_setPriority_18 (by decide) ?_
  refine x_iadd (v := 474) hx hb dX10_setPriority_19 (by decide) ?_
  refine lv_iconst (v := 4) hx hb dX10_setPriority_20 (by decide) ?_
  refine x_iadd (v := 478) hx hb dX10_setPriority_21 (by decide) ?_
  refine lv_iload_n hx hb dX10_setPriority_22 rfl (lv_at hl 2 rfl) ?_
  refine lv_iconst (v := 0) hx hb dX10_setPriority_23 (by decide) ?_
  refine lv_bipush (v := 9) hx hb dX10_setPriority_24 (by decide) ?_
  refine lv_iconst (v := 2) hx hb dX10_setPriority_26 (by decide) ?_
  refine g_i (wr := []) (rV (rest := []) hx hb hml hown hE hP hD 3 rfl rfl (c2120_X10_sets l g q1 q42 q43 q44 x2 w4 w6 (.int 1) w10 w11 w12 w13 w14 w15 w16 w17 w18 w19 w20 w21 w22 w23 w24 w25 w26 w27 w28 w29 w30 w31 w32 w33 w34 w35 w36 w37 w38 w39 f45 f46 (hf47) h40 h41 H.size) (kV_X10_sets hE (e1628 hE) rfl rfl ⟨(Nat.le_of_ble_eq_true rfl), (Nat.le_of_ble_eq_true rfl)⟩) [0, 1, 2, 3] rfl (by decide) rfl hl.1 rfl (lv_room (Nat.le_of_ble_eq_true rfl)) dX10_setPriority_27 ⟨(Nat.le_of_ble_eq_true rfl), (Nat.le_of_ble_eq_true rfl)⟩) hP hD hS hA [0, 1, 2, 3] [] rfl rfl (by decide) (by decide) (fun u2 H locs hP hD hS => ?_)
  have hP : va_P g.1 vwCl [(q42, .inl (g.2 0, 497, .inl (upd f45 478 x2))), (q44, .inl (g.2 0, 3976, .inl (cpF 497 (cpF 497 f45 f46) f46))), (q43, .inl (g.2 0, 497, .inl (cpF 497 f45 f46))), (q1, .inr (12, [.ref q42, w4, .ref q43, w6, .ref q44, .int 1, .int 0, w10, w11, w12, w13, w14, w15, w16, w17, w18, w19, w20, w21, w22, w23, w24, w25, w26, w27, w28, w29, w30, w31, w32, w33, w34, w35, w36, w37, w38, w39]))] H := hP
  have hD : va_D A [(q42, .inl (g.2 0, 497, .inl (upd f45 478 x2))), (q44, .inl (g.2 0, 3976, .inl (cpF 497 (cpF 497 f45 f46) f46))), (q43, .inl (g.2 0, 497, .inl (cpF 497 f45 f46))), (q1, .inr (12, [.ref q42, w4, .ref q43, w6, .ref q44, .int 1, .int 0, w10, w11, w12, w13, w14, w15, w16, w17, w18, w19, w20, w21, w22, w23, w24, w25, w26, w27, w28, w29, w30, w31, w32, w33, w34, w35, w36, w37, w38, w39]))] := hD
  refine lv_goto (tgt := 34) hx hb dX10_setPriority_30 (by decide) ?_
  exact x_zret hx hb hr rfl rfl hlocks hP hD hS hAe hsz (Nat.le_of_ble_eq_true rfl) (Nat.le_of_ble_eq_true rfl) (fun _ => 0) [3] (by decide) rfl dX10_setPriority_34

set_option maxHeartbeats 4000000 in
set_option maxRecDepth 100000 in
theorem c2122_X6_instrumentNumber (l : Launch) (g : gG) (q1 q9 : Nat) (w2 w3 w4 w6 w7 w8 : Value) (f10 : Nat → Int32) (hf11 : f10 9 = 5) (sz : Nat) : Met l yX6_instrumentNumber [Cond.code yX6_instrumentNumber cX6_instrumentNumber 4 (some .int)] ({ frames := 0, cells := 0, slots := 0, locals := 0 } : Room) (va_Pc [.ref q1, .int 1, .int 4] (PX g sz [(q9, .inl (g.2 0, 20, .inl f10)), (q1, .inr (8, [w2, w3, w4, .ref q9, w6, w7, w8]))])) (QI g [(q9, .inl (g.2 0, 20, .inl f10)), (q1, .inr (8, [w2, w3, w4, .ref q9, w6, w7, w8]))] sz 5 (fun _ => [(q9, .inl (g.2 0, 20, .inl f10)), (q1, .inr (8, [w2, w3, w4, .ref q9, w6, w7, w8]))])) 0 0 (va_A [(q9, .inl (g.2 0, 20, .inl f10)), (q1, .inr (8, [w2, w3, w4, .ref q9, w6, w7, w8]))] sz) := by
  refine ofN (by decide) (Nat.le_of_ble_eq_true rfl) rfl ?_
  intro p e s m args below meth c A ls hAe hsz hx hb hml hr hlocks hin hown hE hP hD hA hS hl
  have hown : s.vm.findClass RX6 = some m.cls := hown
  refine lv_iload_n hx hb dX6_instrumentNumber_0 rfl (lv_at hl 1 rfl) ?_
  refine lv_iconst (v := 5) hx hb dX6_instrumentNumber_1 (by decide) ?_
  refine x_imul (v := 5) hx hb dX6_instrumentNumber_2 (by decide) ?_
  refine lv_iload_n hx hb dX6_instrumentNumber_3 rfl (lv_at hl 2 rfl) ?_
  refine x_iadd (v := 9) hx hb dX6_instrumentNumber_4 (by decide) ?_
  refine lv_istore_n (lv' := [(3, .int 9), (0, .ref q1), (1, .int 1), (2, .int 4)]) hx hb dX6_instrumentNumber_5 rfl hl (by decide) rfl (fun ls hl => ?_)
  refine lv_iload_n hx hb dX6_instrumentNumber_6 rfl (lv_at hl 0 rfl) ?_
  refine lv_if_lt (tgt := 28) hx hb dX6_instrumentNumber_7 (by decide) (fun h => absurd h (by decide)) (fun _ => ?_)
  refine lv_iload_n hx hb dX6_instrumentNumber_10 rfl (lv_at hl 0 rfl) ?_
  refine lv_aload_n hx hb dX6_instrumentNumber_11 rfl (lv_at hl 1 rfl) ?_
  refine gf_RX6_29 hx hb hown hE hP 1 rfl rfl dX6_instrumentNumber_12 ?_
  refine x_aleni (v := 20) hx hb hE hP 0 rfl rfl dX6_instrumentNumber_15 ?_
  refine lv_icmp_ge (tgt := 28) hx hb dX6_instrumentNumber_16 (by decide) (fun h => absurd h (by decide)) (fun _ => ?_)
  refine lv_aload_n hx hb dX6_instrumentNumber_19 rfl (lv_at hl 1 rfl) ?_
  refine gf_RX6_29 hx hb hown hE hP 1 rfl rfl dX6_instrumentNumber_20 ?_
  refine lv_iload_n hx hb dX6_instrumentNumber_23 rfl (lv_at hl 0 rfl) ?_
  refine x_iald (v := 5) hx hb hE hP 0 rfl 9 (x_in (by decide)) (by decide) hf11 dX6_instrumentNumber_24 ?_
  refine lv_goto (tgt := 29) hx hb dX6_instrumentNumber_25 (by decide) ?_
  exact x_zret hx hb hr rfl rfl hlocks hP hD hS hAe hsz (Nat.le_of_ble_eq_true rfl) (Nat.le_of_ble_eq_true rfl) (fun _ => 0) [0, 1] (by decide) rfl dX6_instrumentNumber_29

set_option maxHeartbeats 4000000 in
set_option maxRecDepth 100000 in
theorem c2123_X9_putAt (l : Launch) (g : gG) (q1 : Nat) (x2 : Int32) (f3 : Nat → Int32) (sz : Nat) : Met l yX9_putAt [Cond.code yX9_putAt cX9_putAt 3 none] ({ frames := 0, cells := 0, slots := 0, locals := 0 } : Room) (va_Pc [.ref q1, .int 9, .int x2] (PX g sz [(q1, .inl (g.2 0, 20, .inl f3))])) (QV g [(q1, .inl (g.2 0, 20, .inl f3))] sz (fun _ => [(q1, .inl (g.2 0, 20, .inl (upd f3 9 x2)))])) 0 0 (va_A [(q1, .inl (g.2 0, 20, .inl f3))] sz) := by
  refine ofN (by decide) (Nat.le_of_ble_eq_true rfl) rfl ?_
  intro p e s m args below meth c A ls hAe hsz hx hb hml hr hlocks hin hown hE hP hD hA hS hl
  have hown : s.vm.findClass RX9 = some m.cls := hown
  refine lv_iload_n hx hb dX9_putAt_0 rfl (lv_at hl 1 rfl) ?_
  refine lv_if_lt (tgt := 14) hx hb dX9_putAt_1 (by decide) (fun h => absurd h (by decide)) (fun _ => ?_)
  refine lv_iload_n hx hb dX9_putAt_4 rfl (lv_at hl 1 rfl) ?_
  refine lv_aload_n hx hb dX9_putAt_5 rfl (lv_at hl 0 rfl) ?_
  refine x_aleni (v := 20) hx hb hE hP 0 rfl rfl dX9_putAt_6 ?_
  refine lv_icmp_ge (tgt := 14) hx hb dX9_putAt_7 (by decide) (fun h => absurd h (by decide)) (fun _ => ?_)
  refine lv_aload_n hx hb dX9_putAt_10 rfl (lv_at hl 0 rfl) ?_
  refine lv_iload_n hx hb dX9_putAt_11 rfl (lv_at hl 1 rfl) ?_
  refine lv_iload_n hx hb dX9_putAt_12 rfl (lv_at hl 2 rfl) ?_
  refine x_iast (ws' := [(q1, .inl (g.2 0, 20, .inl (upd f3 9 x2)))]) hx hb hE hP hD hS 0 rfl 9 (x_in (by decide)) (by decide) dX9_putAt_13 rfl (fun H locs hP hD hS => ?_)
  exact x_vret hx hb hr hlocks hP hD hS hAe hsz (Nat.le_of_ble_eq_true rfl) (Nat.le_of_ble_eq_true rfl) (fun _ => 0) [0] (by decide) rfl dX9_putAt_14

set_option maxHeartbeats 4000000 in
set_option maxRecDepth 100000 in
theorem c2124_X6_putInstrumentNumber (l : Launch) (g : gG) (q1 q10 : Nat) (x2 : Int32) (w3 w4 w5 w7 w8 w9 : Value) (f11 : Nat → Int32) (sz : Nat) : Met l yX6_putInstrumentNumber [Cond.code yX6_putInstrumentNumber cX6_putInstrumentNumber 4 none] ({ frames := 1, cells := 0, slots := 0, locals := 22 } : Room) (va_Pc [.ref q1, .int 1, .int 4, .int x2] (PX g sz [(q10, .inl (g.2 0, 20, .inl f11)), (q1, .inr (8, [w3, w4, w5, .ref q10, w7, w8, w9]))])) (QV g [(q10, .inl (g.2 0, 20, .inl f11)), (q1, .inr (8, [w3, w4, w5, .ref q10, w7, w8, w9]))] sz (fun _ => [(q1, .inr (8, [w3, w4, w5, .ref q10, w7, w8, w9])), (q10, .inl (g.2 0, 20, .inl (upd f11 9 x2)))])) 0 0 (va_A [(q10, .inl (g.2 0, 20, .inl f11)), (q1, .inr (8, [w3, w4, w5, .ref q10, w7, w8, w9]))] sz) := by
  refine ofN (by decide) (Nat.le_of_ble_eq_true rfl) rfl ?_
  intro p e s m args below meth c A ls hAe hsz hx hb hml hr hlocks hin hown hE hP hD hA hS hl
  have hown : s.vm.findClass RX6 = some m.cls := hown
  refine lv_aload_n hx hb dX6_putInstrumentNumber_0 rfl (lv_at hl 0 rfl) ?_
  refine gf_RX6_29 hx hb hown hE hP 1 rfl rfl dX6_putInstrumentNumber_1 ?_
  refine lv_iload_n hx hb dX6_putInstrumentNumber_4 rfl (lv_at hl 1 rfl) ?_
  refine lv_iconst (v := 5) hx hb dX6_putInstrumentNumber_5 (by decide) ?_
  refine x_imul (v := 5) hx hb dX6_putInstrumentNumber_6 (by decide) ?_
  refine lv_iload_n hx hb dX6_putInstrumentNumber_7 rfl (lv_at hl 2 rfl) ?_
  refine x_iadd (v := 9) hx hb dX6_putInstrumentNumber_8 (by decide) ?_
  refine lv_iload_n hx hb dX6_putInstrumentNumber_9 rfl (lv_at hl 3 rfl) ?_
  refine g_v (wr := [(q1, .inr (8, [w3, w4, w5, .ref q10, w7, w8, w9]))]) (rSN (rest := []) hx hb hml hown hE hP hD (c2123_X9_putAt l g q10 x2 f11 s.heap.size) (kSN_X9_putAt hE (e107 hE) rfl rfl ⟨(Nat.le_of_ble_eq_true rfl), (Nat.le_of_ble_eq_true rfl)⟩) [0] rfl (by decide) rfl hl.1 rfl (lv_room (Nat.le_of_ble_eq_true rfl)) dX6_putInstrumentNumber_10 ⟨(Nat.le_of_ble_eq_true rfl), (Nat.le_of_ble_eq_true rfl)⟩) hP hD hS hA [0] [1] rfl rfl (by decide) (by decide) (fun u1 H locs hP hD hS => ?_)
  have hP : va_P g.1 vwCl [(q1, .inr (8, [w3, w4, w5, .ref q10, w7, w8, w9])), (q10, .inl (g.2 0, 20, .inl (upd f11 9 x2)))] H := hP
  have hD : va_D A [(q1, .inr (8, [w3, w4, w5, .ref q10, w7, w8, w9])), (q10, .inl (g.2 0, 20, .inl (upd f11 9 x2)))] := hD
  exact x_vret hx hb hr hlocks hP hD hS hAe hsz (Nat.le_of_ble_eq_true rfl) (Nat.le_of_ble_eq_true rfl) (fun _ => 0) [0, 1] (by decide) rfl dX6_putInstrumentNumber_13

set_option maxHeartbeats 4000000 in
set_option maxRecDepth 100000 in
theorem c2125_X9_setPriority (l : Launch) (g : gG) (q1 q16 q20 q23 q25 q33 q34 q35 q36 q44 q45 q46 q47 q50 q51 q54 q55 q62 q63 q68 q69 : Nat) (x2 : Int32) (w6 w7 w8 w9 w10 w11 w12 w13 w14 w15 w30 w31 w32 w66 w67 : Value) (f21 : Nat → Option Nat) (f56 : Nat → Int32) (f57 : Nat → Int32) (f70 : Nat → Int32) (f71 : Nat → Int32) (hf22 : f21 1 = some q23) (hf24 : f21 0 = some q25) (hf72 : f71 9 = 5) (h3 : (0 : Int32) ≤ x2) (h4 : x2 ≤ 9) (sz : Nat) : Met l yX9_setPriority [Cond.code yX9_setPriority cX9_setPriority 5 (some .int)] ({ frames := 5, cells := 0, slots := 0, locals := 148 } : Room) (va_Pc [.ref q1, .int 1, .int x2] (PX g sz [(q36, .inl (g.2 0, 20, .inl f71)), (q47, .inl (g.2 0, 20, .inl f71)), (q35, .inl (g.2 0, 60, .inl f56)), (q46, .inl (g.2 0, 60, .inl f56)), (q69, .inl (g.2 0, 10, .inl f70)), (q63, .inl (g.2 0, 10, .inl f70)), (q68, .inl (g.2 0, 10, .inl f56)), (q62, .inl (g.2 0, 10, .inl f56)), (q34, .inr (9, [.ref q68, .ref q69, w66, w67])), (q45, .inr (9, [.ref q62, .ref q63, .int 1, .int 0])), (q55, .inl (g.2 0, 40, .inl f57)), (q51, .inl (g.2 0, 40, .inl f57)), (q54, .inl (g.2 0, 384, .inl f56)), (q50, .inl (g.2 0, 384, .inl f56)), (q33, .inr (5, [.ref q54, .ref q55])), (q44, .inr (5, [.ref q50, .ref q51])), (q25, .inr (8, [.ref q44, .ref q45, .ref q46, .ref q47, .int 0, .int 4, .int 0])), (q23, .inr (8, [.ref q33, .ref q34, .ref q35, .ref q36, w30, w31, w32])), (q20, .inl (g.2 3, 10, .inr (.inr (.inr (.inr f21))))), (q16, .inr (10, [.ref q20, .int 0, .int 0])), (q1, .inr (11, [.ref q16, w6, w7, w8, w9, w10, w11, w12, w13, w14, w15]))])) (QI g [(q36, .inl (g.2 0, 20, .inl f71)), (q47, .inl (g.2 0, 20, .inl f71)), (q35, .inl (g.2 0, 60, .inl f56)), (q46, .inl (g.2 0, 60, .inl f56)), (q69, .inl (g.2 0, 10, .inl f70)), (q63, .inl (g.2 0, 10, .inl f70)), (q68, .inl (g.2 0, 10, .inl f56)), (q62, .inl (g.2 0, 10, .inl f56)), (q34, .inr (9, [.ref q68, .ref q69, w66, w67])), (q45, .inr (9, [.ref q62, .ref q63, .int 1, .int 0])), (q55, .inl (g.2 0, 40, .inl f57)), (q51, .inl (g.2 0, 40, .inl f57)), (q54, .inl (g.2 0, 384, .inl f56)), (q50, .inl (g.2 0, 384, .inl f56)), (q33, .inr (5, [.ref q54, .ref q55])), (q44, .inr (5, [.ref q50, .ref q51])), (q25, .inr (8, [.ref q44, .ref q45, .ref q46, .ref q47, .int 0, .int 4, .int 0])), (q23, .inr (8, [.ref q33, .ref q34, .ref q35, .ref q36, w30, w31, w32])), (q20, .inl (g.2 3, 10, .inr (.inr (.inr (.inr f21))))), (q16, .inr (10, [.ref q20, .int 0, .int 0])), (q1, .inr (11, [.ref q16, w6, w7, w8, w9, w10, w11, w12, w13, w14, w15]))] sz 5 (fun _ => [(q20, .inl (g.2 3, 10, .inr (.inr (.inr (.inr f21))))), (q25, .inr (8, [.ref q44, .ref q45, .ref q46, .ref q47, .int 0, .int 4, .int 0])), (q33, .inr (5, [.ref q54, .ref q55])), (q44, .inr (5, [.ref q50, .ref q51])), (q54, .inl (g.2 0, 384, .inl f56)), (q50, .inl (g.2 0, 384, .inl f56)), (q55, .inl (g.2 0, 40, .inl f57)), (q51, .inl (g.2 0, 40, .inl f57)), (q34, .inr (9, [.ref q68, .ref q69, .int 1, .int 0])), (q45, .inr (9, [.ref q62, .ref q63, .int 1, .int 0])), (q68, .inl (g.2 0, 10, .inl f56)), (q62, .inl (g.2 0, 10, .inl f56)), (q69, .inl (g.2 0, 10, .inl f70)), (q63, .inl (g.2 0, 10, .inl f70)), (q35, .inl (g.2 0, 60, .inl f56)), (q46, .inl (g.2 0, 60, .inl f56)), (q47, .inl (g.2 0, 20, .inl f71)), (q23, .inr (8, [.ref q33, .ref q34, .ref q35, .ref q36, .int 0, .int 4, .int 0])), (q36, .inl (g.2 0, 20, .inl (upd f71 9 x2))), (q16, .inr (10, [.ref q20, .int 1, .int 1])), (q1, .inr (11, [.ref q16, w6, w7, w8, w9, w10, w11, w12, .int 0, .int 0, w15]))])) 0 0 (va_A [(q36, .inl (g.2 0, 20, .inl f71)), (q47, .inl (g.2 0, 20, .inl f71)), (q35, .inl (g.2 0, 60, .inl f56)), (q46, .inl (g.2 0, 60, .inl f56)), (q69, .inl (g.2 0, 10, .inl f70)), (q63, .inl (g.2 0, 10, .inl f70)), (q68, .inl (g.2 0, 10, .inl f56)), (q62, .inl (g.2 0, 10, .inl f56)), (q34, .inr (9, [.ref q68, .ref q69, w66, w67])), (q45, .inr (9, [.ref q62, .ref q63, .int 1, .int 0])), (q55, .inl (g.2 0, 40, .inl f57)), (q51, .inl (g.2 0, 40, .inl f57)), (q54, .inl (g.2 0, 384, .inl f56)), (q50, .inl (g.2 0, 384, .inl f56)), (q33, .inr (5, [.ref q54, .ref q55])), (q44, .inr (5, [.ref q50, .ref q51])), (q25, .inr (8, [.ref q44, .ref q45, .ref q46, .ref q47, .int 0, .int 4, .int 0])), (q23, .inr (8, [.ref q33, .ref q34, .ref q35, .ref q36, w30, w31, w32])), (q20, .inl (g.2 3, 10, .inr (.inr (.inr (.inr f21))))), (q16, .inr (10, [.ref q20, .int 0, .int 0])), (q1, .inr (11, [.ref q16, w6, w7, w8, w9, w10, w11, w12, w13, w14, w15]))] sz) := by
  refine ofN (by decide) (Nat.le_of_ble_eq_true rfl) rfl ?_
  intro p e s m args below meth c A ls hAe hsz hx hb hml hr hlocks hin hown hE hP hD hA hS hl
  have hown : s.vm.findClass RX9 = some m.cls := hown
  refine lv_iload_n hx hb dX9_setPriority_0 rfl (lv_at hl 1 rfl) ?_
  refine g0_v (rS (rest := []) hx hb hml hown hE hP hD (c1854_X9_requireInstrument l g 1 (by decide) (by decide) s.heap.size) (kS_X9_requireInstrument hE (e991 hE) rfl rfl ⟨(Nat.le_of_ble_eq_true rfl), (Nat.le_of_ble_eq_true rfl)⟩) [] rfl (by decide) rfl hl.1 rfl (lv_room (Nat.le_of_ble_eq_true rfl)) dX9_setPriority_1 ⟨(Nat.le_of_ble_eq_true rfl), (Nat.le_of_ble_eq_true rfl)⟩) hP hD hS hA (fun u9 H locs hP hS => ?_)
  refine lv_iload_n hx hb dX9_setPriority_4 rfl (lv_at hl 2 rfl) ?_
  refine lv_iconst (v := 0) hx hb dX9_setPriority_5 (by decide) ?_
  refine lv_bipush (v := 9) hx hb dX9_setPriority_6 (by decide) ?_
  refine g0_v (rS (rest := []) hx hb hml hown hE hP hD (c2113_X9_requireRange l g x2 h3 h4 H.size) (kS_X9_requireRange hE (e636 hE) rfl rfl ⟨(Nat.le_of_ble_eq_true rfl), (Nat.le_of_ble_eq_true rfl)⟩) [] rfl (by decide) rfl hl.1 rfl (lv_room (Nat.le_of_ble_eq_true rfl)) dX9_setPriority_8 ⟨(Nat.le_of_ble_eq_true rfl), (Nat.le_of_ble_eq_true rfl)⟩) hP hD hS hA (fun u9 H locs hP hS => ?_)
  refine lv_aload_n hx hb dX9_setPriority_11 rfl (lv_at hl 0 rfl) ?_
  refine gf_RX9_12 hx hb hown hE hP 20 rfl rfl dX9_setPriority_12 ?_
  refine g_r (wr := [(q1, .inr (11, [.ref q16, w6, w7, w8, w9, w10, w11, w12, w13, w14, w15]))]) (rV (rest := []) hx hb hml hown hE hP hD 19 rfl rfl (c127_X8_draft l g q16 q20 q23 q25 q33 q44 q50 q54 q51 q55 q34 q45 q62 q68 q63 q69 q46 q35 q47 q36 (.int 0) w30 w31 w32 w66 w67 f21 f56 f57 f70 f71 (hf22) (hf24) H.size) (kV_X8_draft hE (e659 hE) rfl rfl ⟨(Nat.le_of_ble_eq_true rfl), (Nat.le_of_ble_eq_true rfl)⟩) [0, 1, 2, 3, 4, 5, 6, 7, 8, 9, 10, 11, 12, 13, 14, 15, 16, 17, 18, 19] rfl (by decide) rfl hl.1 rfl (lv_room (Nat.le_of_ble_eq_true rfl)) dX9_setPriority_15 ⟨(Nat.le_of_ble_eq_true rfl), (Nat.le_of_ble_eq_true rfl)⟩) hP hD hS hA [0, 1, 2, 3, 4, 5, 6, 7, 8, 9, 10, 11, 12, 13, 14, 15, 16, 17, 18, 19] [20] rfl rfl (by decide) (by decide) (fun u3 H locs hP hD hS => ?_)
  have hP : va_P g.1 vwCl [(q1, .inr (11, [.ref q16, w6, w7, w8, w9, w10, w11, w12, w13, w14, w15])), (q20, .inl (g.2 3, 10, .inr (.inr (.inr (.inr f21))))), (q16, .inr (10, [.ref q20, .int 0, .int 0])), (q25, .inr (8, [.ref q44, .ref q45, .ref q46, .ref q47, .int 0, .int 4, .int 0])), (q23, .inr (8, [.ref q33, .ref q34, .ref q35, .ref q36, .int 0, .int 4, .int 0])), (q33, .inr (5, [.ref q54, .ref q55])), (q44, .inr (5, [.ref q50, .ref q51])), (q54, .inl (g.2 0, 384, .inl f56)), (q50, .inl (g.2 0, 384, .inl f56)), (q55, .inl (g.2 0, 40, .inl f57)), (q51, .inl (g.2 0, 40, .inl f57)), (q34, .inr (9, [.ref q68, .ref q69, .int 1, .int 0])), (q45, .inr (9, [.ref q62, .ref q63, .int 1, .int 0])), (q68, .inl (g.2 0, 10, .inl f56)), (q62, .inl (g.2 0, 10, .inl f56)), (q69, .inl (g.2 0, 10, .inl f70)), (q63, .inl (g.2 0, 10, .inl f70)), (q35, .inl (g.2 0, 60, .inl f56)), (q46, .inl (g.2 0, 60, .inl f56)), (q36, .inl (g.2 0, 20, .inl f71)), (q47, .inl (g.2 0, 20, .inl f71))] H := hP
  have hD : va_D A [(q1, .inr (11, [.ref q16, w6, w7, w8, w9, w10, w11, w12, w13, w14, w15])), (q20, .inl (g.2 3, 10, .inr (.inr (.inr (.inr f21))))), (q16, .inr (10, [.ref q20, .int 0, .int 0])), (q25, .inr (8, [.ref q44, .ref q45, .ref q46, .ref q47, .int 0, .int 4, .int 0])), (q23, .inr (8, [.ref q33, .ref q34, .ref q35, .ref q36, .int 0, .int 4, .int 0])), (q33, .inr (5, [.ref q54, .ref q55])), (q44, .inr (5, [.ref q50, .ref q51])), (q54, .inl (g.2 0, 384, .inl f56)), (q50, .inl (g.2 0, 384, .inl f56)), (q55, .inl (g.2 0, 40, .inl f57)), (q51, .inl (g.2 0, 40, .inl f57)), (q34, .inr (9, [.ref q68, .ref q69, .int 1, .int 0])), (q45, .inr (9, [.ref q62, .ref q63, .int 1, .int 0])), (q68, .inl (g.2 0, 10, .inl f56)), (q62, .inl (g.2 0, 10, .inl f56)), (q69, .inl (g.2 0, 10, .inl f70)), (q63, .inl (g.2 0, 10, .inl f70)), (q35, .inl (g.2 0, 60, .inl f56)), (q46, .inl (g.2 0, 60, .inl f56)), (q36, .inl (g.2 0, 20, .inl f71)), (q47, .inl (g.2 0, 20, .inl f71))] := hD
  refine lv_astore_n (lv' := [(3, .ref q23), (0, .ref q1), (1, .int 1), (2, .int x2)]) hx hb dX9_setPriority_18 rfl hl (by decide) rfl (fun ls hl => ?_)
  refine lv_aload_n hx hb dX9_setPriority_19 rfl (lv_at hl 0 rfl) ?_
  refine lv_iload_n hx hb dX9_setPriority_20 rfl (lv_at hl 2 rfl) ?_
  refine lv_iconst (v := 4) hx hb dX9_setPriority_21 (by decide) ?_
  refine g_i (wr := [(q1, .inr (11, [.ref q16, w6, w7, w8, w9, w10, w11, w12, w13, w14, w15])), (q20, .inl (g.2 3, 10, .inr (.inr (.inr (.inr f21))))), (q16, .inr (10, [.ref q20, .int 0, .int 0])), (q25, .inr (8, [.ref q44, .ref q45, .ref q46, .ref q47, .int 0, .int 4, .int 0])), (q33, .inr (5, [.ref q54, .ref q55])), (q44, .inr (5, [.ref q50, .ref q51])), (q54, .inl (g.2 0, 384, .inl f56)), (q50, .inl (g.2 0, 384, .inl f56)), (q55, .inl (g.2 0, 40, .inl f57)), (q51, .inl (g.2 0, 40, .inl f57)), (q34, .inr (9, [.ref q68, .ref q69, .int 1, .int 0])), (q45, .inr (9, [.ref q62, .ref q63, .int 1, .int 0])), (q68, .inl (g.2 0, 10, .inl f56)), (q62, .inl (g.2 0, 10, .inl f56)), (q69, .inl (g.2 0, 10, .inl f70)), (q63, .inl (g.2 0, 10, .inl f70)), (q35, .inl (g.2 0, 60, .inl f56)), (q46, .inl (g.2 0, 60, .inl f56)), (q47, .inl (g.2 0, 20, .inl f71))]) (rV (rest := []) hx hb hml hown hE hP hD 4 rfl rfl (c2122_X6_instrumentNumber l g q23 q36 (.ref q33) (.ref q34) (.ref q35) (.int 0) (.int 4) (.int 0) f71 (hf72) H.size) (kV_X6_instrumentNumber hE (e1010 hE) rfl rfl ⟨(Nat.le_of_ble_eq_true rfl), (Nat.le_of_ble_eq_true rfl)⟩) [19, 4] rfl (by decide) rfl hl.1 rfl (lv_room (Nat.le_of_ble_eq_true rfl)) dX9_setPriority_22 ⟨(Nat.le_of_ble_eq_true rfl), (Nat.le_of_ble_eq_true rfl)⟩) hP hD hS hA [19, 4] [0, 1, 2, 3, 5, 6, 7, 8, 9, 10, 11, 12, 13, 14, 15, 16, 17, 18, 20] rfl rfl (by decide) (by decide) (fun u4 H locs hP hD hS => ?_)
  have hP : va_P g.1 vwCl [(q1, .inr (11, [.ref q16, w6, w7, w8, w9, w10, w11, w12, w13, w14, w15])), (q20, .inl (g.2 3, 10, .inr (.inr (.inr (.inr f21))))), (q16, .inr (10, [.ref q20, .int 0, .int 0])), (q25, .inr (8, [.ref q44, .ref q45, .ref q46, .ref q47, .int 0, .int 4, .int 0])), (q33, .inr (5, [.ref q54, .ref q55])), (q44, .inr (5, [.ref q50, .ref q51])), (q54, .inl (g.2 0, 384, .inl f56)), (q50, .inl (g.2 0, 384, .inl f56)), (q55, .inl (g.2 0, 40, .inl f57)), (q51, .inl (g.2 0, 40, .inl f57)), (q34, .inr (9, [.ref q68, .ref q69, .int 1, .int 0])), (q45, .inr (9, [.ref q62, .ref q63, .int 1, .int 0])), (q68, .inl (g.2 0, 10, .inl f56)), (q62, .inl (g.2 0, 10, .inl f56)), (q69, .inl (g.2 0, 10, .inl f70)), (q63, .inl (g.2 0, 10, .inl f70)), (q35, .inl (g.2 0, 60, .inl f56)), (q46, .inl (g.2 0, 60, .inl f56)), (q47, .inl (g.2 0, 20, .inl f71)), (q36, .inl (g.2 0, 20, .inl f71)), (q23, .inr (8, [.ref q33, .ref q34, .ref q35, .ref q36, .int 0, .int 4, .int 0]))] H := hP
  have hD : va_D A [(q1, .inr (11, [.ref q16, w6, w7, w8, w9, w10, w11, w12, w13, w14, w15])), (q20, .inl (g.2 3, 10, .inr (.inr (.inr (.inr f21))))), (q16, .inr (10, [.ref q20, .int 0, .int 0])), (q25, .inr (8, [.ref q44, .ref q45, .ref q46, .ref q47, .int 0, .int 4, .int 0])), (q33, .inr (5, [.ref q54, .ref q55])), (q44, .inr (5, [.ref q50, .ref q51])), (q54, .inl (g.2 0, 384, .inl f56)), (q50, .inl (g.2 0, 384, .inl f56)), (q55, .inl (g.2 0, 40, .inl f57)), (q51, .inl (g.2 0, 40, .inl f57)), (q34, .inr (9, [.ref q68, .ref q69, .int 1, .int 0])), (q45, .inr (9, [.ref q62, .ref q63, .int 1, .int 0])), (q68, .inl (g.2 0, 10, .inl f56)), (q62, .inl (g.2 0, 10, .inl f56)), (q69, .inl (g.2 0, 10, .inl f70)), (q63, .inl (g.2 0, 10, .inl f70)), (q35, .inl (g.2 0, 60, .inl f56)), (q46, .inl (g.2 0, 60, .inl f56)), (q47, .inl (g.2 0, 20, .inl f71)), (q36, .inl (g.2 0, 20, .inl f71)), (q23, .inr (8, [.ref q33, .ref q34, .ref q35, .ref q36, .int 0, .int 4, .int 0]))] := hD
  refine lv_istore (lv' := [(4, .int 5), (3, .ref q23), (0, .ref q1), (1, .int 1), (2, .int x2)]) hx hb dX9_setPriority_25 hl (by decide) rfl (fun ls hl => ?_)
  refine lv_aload_n hx hb dX9_setPriority_27 rfl (lv_at hl 1 rfl) ?_
  refine lv_iload_n hx hb dX9_setPriority_28 rfl (lv_at hl 3 rfl) ?_
  refine lv_iconst (v := 4) hx hb dX9_setPriority_29 (by decide) ?_
  refine lv_iload_n hx hb dX9_setPriority_30 rfl (lv_at hl 4 rfl) ?_
  refine g_v (wr := [(q1, .inr (11, [.ref q16, w6, w7, w8, w9, w10, w11, w12, w13, w14, w15])), (q20, .inl (g.2 3, 10, .inr (.inr (.inr (.inr f21))))), (q16, .inr (10, [.ref q20, .int 0, .int 0])), (q25, .inr (8, [.ref q44, .ref q45, .ref q46, .ref q47, .int 0, .int 4, .int 0])), (q33, .inr (5, [.ref q54, .ref q55])), (q44, .inr (5, [.ref q50, .ref q51])), (q54, .inl (g.2 0, 384, .inl f56)), (q50, .inl (g.2 0, 384, .inl f56)), (q55, .inl (g.2 0, 40, .inl f57)), (q51, .inl (g.2 0, 40, .inl f57)), (q34, .inr (9, [.ref q68, .ref q69, .int 1, .int 0])), (q45, .inr (9, [.ref q62, .ref q63, .int 1, .int 0])), (q68, .inl (g.2 0, 10, .inl f56)), (q62, .inl (g.2 0, 10, .inl f56)), (q69, .inl (g.2 0, 10, .inl f70)), (q63, .inl (g.2 0, 10, .inl f70)), (q35, .inl (g.2 0, 60, .inl f56)), (q46, .inl (g.2 0, 60, .inl f56)), (q47, .inl (g.2 0, 20, .inl f71))]) (rV (rest := []) hx hb hml hown hE hP hD 20 rfl rfl (c2124_X6_putInstrumentNumber l g q23 q36 x2 (.ref q33) (.ref q34) (.ref q35) (.int 0) (.int 4) (.int 0) f71 H.size) (kV_X6_putInstrumentNumber hE (e1011 hE) rfl rfl ⟨(Nat.le_of_ble_eq_true rfl), (Nat.le_of_ble_eq_true rfl)⟩) [19, 20] rfl (by decide) rfl hl.1 rfl (lv_room (Nat.le_of_ble_eq_true rfl)) dX9_setPriority_31 ⟨(Nat.le_of_ble_eq_true rfl), (Nat.le_of_ble_eq_true rfl)⟩) hP hD hS hA [19, 20] [0, 1, 2, 3, 4, 5, 6, 7, 8, 9, 10, 11, 12, 13, 14, 15, 16, 17, 18] rfl rfl (by decide) (by decide) (fun u5 H locs hP hD hS => ?_)
  have hP : va_P g.1 vwCl [(q1, .inr (11, [.ref q16, w6, w7, w8, w9, w10, w11, w12, w13, w14, w15])), (q20, .inl (g.2 3, 10, .inr (.inr (.inr (.inr f21))))), (q16, .inr (10, [.ref q20, .int 0, .int 0])), (q25, .inr (8, [.ref q44, .ref q45, .ref q46, .ref q47, .int 0, .int 4, .int 0])), (q33, .inr (5, [.ref q54, .ref q55])), (q44, .inr (5, [.ref q50, .ref q51])), (q54, .inl (g.2 0, 384, .inl f56)), (q50, .inl (g.2 0, 384, .inl f56)), (q55, .inl (g.2 0, 40, .inl f57)), (q51, .inl (g.2 0, 40, .inl f57)), (q34, .inr (9, [.ref q68, .ref q69, .int 1, .int 0])), (q45, .inr (9, [.ref q62, .ref q63, .int 1, .int 0])), (q68, .inl (g.2 0, 10, .inl f56)), (q62, .inl (g.2 0, 10, .inl f56)), (q69, .inl (g.2 0, 10, .inl f70)), (q63, .inl (g.2 0, 10, .inl f70)), (q35, .inl (g.2 0, 60, .inl f56)), (q46, .inl (g.2 0, 60, .inl f56)), (q47, .inl (g.2 0, 20, .inl f71)), (q23, .inr (8, [.ref q33, .ref q34, .ref q35, .ref q36, .int 0, .int 4, .int 0])), (q36, .inl (g.2 0, 20, .inl (upd f71 9 x2)))] H := hP
  have hD : va_D A [(q1, .inr (11, [.ref q16, w6, w7, w8, w9, w10, w11, w12, w13, w14, w15])), (q20, .inl (g.2 3, 10, .inr (.inr (.inr (.inr f21))))), (q16, .inr (10, [.ref q20, .int 0, .int 0])), (q25, .inr (8, [.ref q44, .ref q45, .ref q46, .ref q47, .int 0, .int 4, .int 0])), (q33, .inr (5, [.ref q54, .ref q55])), (q44, .inr (5, [.ref q50, .ref q51])), (q54, .inl (g.2 0, 384, .inl f56)), (q50, .inl (g.2 0, 384, .inl f56)), (q55, .inl (g.2 0, 40, .inl f57)), (q51, .inl (g.2 0, 40, .inl f57)), (q34, .inr (9, [.ref q68, .ref q69, .int 1, .int 0])), (q45, .inr (9, [.ref q62, .ref q63, .int 1, .int 0])), (q68, .inl (g.2 0, 10, .inl f56)), (q62, .inl (g.2 0, 10, .inl f56)), (q69, .inl (g.2 0, 10, .inl f70)), (q63, .inl (g.2 0, 10, .inl f70)), (q35, .inl (g.2 0, 60, .inl f56)), (q46, .inl (g.2 0, 60, .inl f56)), (q47, .inl (g.2 0, 20, .inl f71)), (q23, .inr (8, [.ref q33, .ref q34, .ref q35, .ref q36, .int 0, .int 4, .int 0])), (q36, .inl (g.2 0, 20, .inl (upd f71 9 x2)))] := hD
  refine lv_aload_n hx hb dX9_setPriority_34 rfl (lv_at hl 2 rfl) ?_
  refine g_v (wr := [(q20, .inl (g.2 3, 10, .inr (.inr (.inr (.inr f21))))), (q25, .inr (8, [.ref q44, .ref q45, .ref q46, .ref q47, .int 0, .int 4, .int 0])), (q33, .inr (5, [.ref q54, .ref q55])), (q44, .inr (5, [.ref q50, .ref q51])), (q54, .inl (g.2 0, 384, .inl f56)), (q50, .inl (g.2 0, 384, .inl f56)), (q55, .inl (g.2 0, 40, .inl f57)), (q51, .inl (g.2 0, 40, .inl f57)), (q34, .inr (9, [.ref q68, .ref q69, .int 1, .int 0])), (q45, .inr (9, [.ref q62, .ref q63, .int 1, .int 0])), (q68, .inl (g.2 0, 10, .inl f56)), (q62, .inl (g.2 0, 10, .inl f56)), (q69, .inl (g.2 0, 10, .inl f70)), (q63, .inl (g.2 0, 10, .inl f70)), (q35, .inl (g.2 0, 60, .inl f56)), (q46, .inl (g.2 0, 60, .inl f56)), (q47, .inl (g.2 0, 20, .inl f71)), (q23, .inr (8, [.ref q33, .ref q34, .ref q35, .ref q36, .int 0, .int 4, .int 0])), (q36, .inl (g.2 0, 20, .inl (upd f71 9 x2)))]) (rV (rest := []) hx hb hml hown hE hP hD 0 rfl rfl (c191_X9_accept l g q1 q16 w6 w7 w8 w9 w10 w11 w12 w13 w14 w15 (.ref q20) H.size) (kV_X9_accept hE (e718 hE) rfl rfl ⟨(Nat.le_of_ble_eq_true rfl), (Nat.le_of_ble_eq_true rfl)⟩) [2, 0] rfl (by decide) rfl hl.1 rfl (lv_room (Nat.le_of_ble_eq_true rfl)) dX9_setPriority_35 ⟨(Nat.le_of_ble_eq_true rfl), (Nat.le_of_ble_eq_true rfl)⟩) hP hD hS hA [2, 0] [1, 3, 4, 5, 6, 7, 8, 9, 10, 11, 12, 13, 14, 15, 16, 17, 18, 19, 20] rfl rfl (by decide) (by decide) (fun u6 H locs hP hD hS => ?_)
  have hP : va_P g.1 vwCl [(q20, .inl (g.2 3, 10, .inr (.inr (.inr (.inr f21))))), (q25, .inr (8, [.ref q44, .ref q45, .ref q46, .ref q47, .int 0, .int 4, .int 0])), (q33, .inr (5, [.ref q54, .ref q55])), (q44, .inr (5, [.ref q50, .ref q51])), (q54, .inl (g.2 0, 384, .inl f56)), (q50, .inl (g.2 0, 384, .inl f56)), (q55, .inl (g.2 0, 40, .inl f57)), (q51, .inl (g.2 0, 40, .inl f57)), (q34, .inr (9, [.ref q68, .ref q69, .int 1, .int 0])), (q45, .inr (9, [.ref q62, .ref q63, .int 1, .int 0])), (q68, .inl (g.2 0, 10, .inl f56)), (q62, .inl (g.2 0, 10, .inl f56)), (q69, .inl (g.2 0, 10, .inl f70)), (q63, .inl (g.2 0, 10, .inl f70)), (q35, .inl (g.2 0, 60, .inl f56)), (q46, .inl (g.2 0, 60, .inl f56)), (q47, .inl (g.2 0, 20, .inl f71)), (q23, .inr (8, [.ref q33, .ref q34, .ref q35, .ref q36, .int 0, .int 4, .int 0])), (q36, .inl (g.2 0, 20, .inl (upd f71 9 x2))), (q16, .inr (10, [.ref q20, .int 1, .int 1])), (q1, .inr (11, [.ref q16, w6, w7, w8, w9, w10, w11, w12, .int 0, .int 0, w15]))] H := hP
  have hD : va_D A [(q20, .inl (g.2 3, 10, .inr (.inr (.inr (.inr f21))))), (q25, .inr (8, [.ref q44, .ref q45, .ref q46, .ref q47, .int 0, .int 4, .int 0])), (q33, .inr (5, [.ref q54, .ref q55])), (q44, .inr (5, [.ref q50, .ref q51])), (q54, .inl (g.2 0, 384, .inl f56)), (q50, .inl (g.2 0, 384, .inl f56)), (q55, .inl (g.2 0, 40, .inl f57)), (q51, .inl (g.2 0, 40, .inl f57)), (q34, .inr (9, [.ref q68, .ref q69, .int 1, .int 0])), (q45, .inr (9, [.ref q62, .ref q63, .int 1, .int 0])), (q68, .inl (g.2 0, 10, .inl f56)), (q62, .inl (g.2 0, 10, .inl f56)), (q69, .inl (g.2 0, 10, .inl f70)), (q63, .inl (g.2 0, 10, .inl f70)), (q35, .inl (g.2 0, 60, .inl f56)), (q46, .inl (g.2 0, 60, .inl f56)), (q47, .inl (g.2 0, 20, .inl f71)), (q23, .inr (8, [.ref q33, .ref q34, .ref q35, .ref q36, .int 0, .int 4, .int 0])), (q36, .inl (g.2 0, 20, .inl (upd f71 9 x2))), (q16, .inr (10, [.ref q20, .int 1, .int 1])), (q1, .inr (11, [.ref q16, w6, w7, w8, w9, w10, w11, w12, .int 0, .int 0, w15]))] := hD
  refine lv_iload hx hb dX9_setPriority_38 (lv_at hl 0 rfl) ?_
  exact x_zret hx hb hr rfl rfl hlocks hP hD hS hAe hsz (Nat.le_of_ble_eq_true rfl) (Nat.le_of_ble_eq_true rfl) (fun _ => 0) [0, 1, 2, 3, 4, 5, 6, 7, 8, 9, 10, 11, 12, 13, 14, 15, 16, 17, 18, 19, 20] (by decide) rfl dX9_setPriority_40

set_option maxHeartbeats 4000000 in
set_option maxRecDepth 100000 in
theorem c2126_L_setPriority (l : Launch) (g : gG) (hlx : l.stackTraces = false) (q1 q3 q17 q21 q24 q26 q34 q35 q36 q37 q45 q46 q47 q48 q51 q52 q55 q56 q63 q64 q69 q70 : Nat) (x2 : Int32) (w7 w8 w9 w10 w11 w12 w13 w14 w15 w16 w31 w32 w33 w67 w68 : Value) (f22 : Nat → Option Nat) (f57 : Nat → Int32) (f58 : Nat → Int32) (f71 : Nat → Int32) (f72 : Nat → Int32) (f74 : Nat → Int64) (hf23 : f22 1 = some q24) (hf25 : f22 0 = some q26) (hf73 : f72 9 = 5) (h4 : (0 : Int32) ≤ x2) (h5 : x2 ≤ 9) (sz : Nat) : Met l yL_setPriority [Cond.codeWith yL_setPriority cL_setPriority 5 (some .int) [(0, 10, 13, 13), (0, 10, 17, 15)]] ({ frames := 6, cells := 0, slots := 0, locals := 172 } : Room) (va_Pc [.ref q1, .int 1, .int x2, .ref q3] (PZ g sz [(q3, .inl (g.2 1, 1, .inr (.inl f74))), (q37, .inl (g.2 0, 20, .inl f72)), (q48, .inl (g.2 0, 20, .inl f72)), (q36, .inl (g.2 0, 60, .inl f57)), (q47, .inl (g.2 0, 60, .inl f57)), (q70, .inl (g.2 0, 10, .inl f71)), (q64, .inl (g.2 0, 10, .inl f71)), (q69, .inl (g.2 0, 10, .inl f57)), (q63, .inl (g.2 0, 10, .inl f57)), (q35, .inr (9, [.ref q69, .ref q70, w67, w68])), (q46, .inr (9, [.ref q63, .ref q64, .int 1, .int 0])), (q56, .inl (g.2 0, 40, .inl f58)), (q52, .inl (g.2 0, 40, .inl f58)), (q55, .inl (g.2 0, 384, .inl f57)), (q51, .inl (g.2 0, 384, .inl f57)), (q34, .inr (5, [.ref q55, .ref q56])), (q45, .inr (5, [.ref q51, .ref q52])), (q26, .inr (8, [.ref q45, .ref q46, .ref q47, .ref q48, .int 0, .int 4, .int 0])), (q24, .inr (8, [.ref q34, .ref q35, .ref q36, .ref q37, w31, w32, w33])), (q21, .inl (g.2 3, 10, .inr (.inr (.inr (.inr f22))))), (q17, .inr (10, [.ref q21, .int 0, .int 0])), (q1, .inr (11, [.ref q17, w7, w8, w9, w10, w11, w12, w13, w14, w15, w16]))])) (QI g [(q3, .inl (g.2 1, 1, .inr (.inl f74))), (q37, .inl (g.2 0, 20, .inl f72)), (q48, .inl (g.2 0, 20, .inl f72)), (q36, .inl (g.2 0, 60, .inl f57)), (q47, .inl (g.2 0, 60, .inl f57)), (q70, .inl (g.2 0, 10, .inl f71)), (q64, .inl (g.2 0, 10, .inl f71)), (q69, .inl (g.2 0, 10, .inl f57)), (q63, .inl (g.2 0, 10, .inl f57)), (q35, .inr (9, [.ref q69, .ref q70, w67, w68])), (q46, .inr (9, [.ref q63, .ref q64, .int 1, .int 0])), (q56, .inl (g.2 0, 40, .inl f58)), (q52, .inl (g.2 0, 40, .inl f58)), (q55, .inl (g.2 0, 384, .inl f57)), (q51, .inl (g.2 0, 384, .inl f57)), (q34, .inr (5, [.ref q55, .ref q56])), (q45, .inr (5, [.ref q51, .ref q52])), (q26, .inr (8, [.ref q45, .ref q46, .ref q47, .ref q48, .int 0, .int 4, .int 0])), (q24, .inr (8, [.ref q34, .ref q35, .ref q36, .ref q37, w31, w32, w33])), (q21, .inl (g.2 3, 10, .inr (.inr (.inr (.inr f22))))), (q17, .inr (10, [.ref q21, .int 0, .int 0])), (q1, .inr (11, [.ref q17, w7, w8, w9, w10, w11, w12, w13, w14, w15, w16]))] sz 0 (fun _ => [(q3, .inl (g.2 1, 1, .inr (.inl (vp_updL f74 0 5))))])) 0 0 (va_A [(q3, .inl (g.2 1, 1, .inr (.inl f74))), (q37, .inl (g.2 0, 20, .inl f72)), (q48, .inl (g.2 0, 20, .inl f72)), (q36, .inl (g.2 0, 60, .inl f57)), (q47, .inl (g.2 0, 60, .inl f57)), (q70, .inl (g.2 0, 10, .inl f71)), (q64, .inl (g.2 0, 10, .inl f71)), (q69, .inl (g.2 0, 10, .inl f57)), (q63, .inl (g.2 0, 10, .inl f57)), (q35, .inr (9, [.ref q69, .ref q70, w67, w68])), (q46, .inr (9, [.ref q63, .ref q64, .int 1, .int 0])), (q56, .inl (g.2 0, 40, .inl f58)), (q52, .inl (g.2 0, 40, .inl f58)), (q55, .inl (g.2 0, 384, .inl f57)), (q51, .inl (g.2 0, 384, .inl f57)), (q34, .inr (5, [.ref q55, .ref q56])), (q45, .inr (5, [.ref q51, .ref q52])), (q26, .inr (8, [.ref q45, .ref q46, .ref q47, .ref q48, .int 0, .int 4, .int 0])), (q24, .inr (8, [.ref q34, .ref q35, .ref q36, .ref q37, w31, w32, w33])), (q21, .inl (g.2 3, 10, .inr (.inr (.inr (.inr f22))))), (q17, .inr (10, [.ref q21, .int 0, .int 0])), (q1, .inr (11, [.ref q17, w7, w8, w9, w10, w11, w12, w13, w14, w15, w16]))] sz) := by
  refine ofH (by decide) (Nat.le_of_ble_eq_true rfl) rfl ?_
  intro p e s m args below meth c A ls hAe hsz hx hb hml hr hlocks hin hown hE hP hD hA hS hl htb hz
  have hown : s.vm.findClass RL = some m.cls := hown
  refine lv_aload_n hx hb dL_setPriority_0 rfl (lv_at hl 3 rfl) ?_
  refine lv_iconst (v := 0) hx hb dL_setPriority_1 (by decide) ?_
  refine lv_aload_n hx hb dL_setPriority_2 rfl (lv_at hl 0 rfl) ?_
  refine lv_iload_n hx hb dL_setPriority_3 rfl (lv_at hl 1 rfl) ?_
  refine lv_iload_n hx hb dL_setPriority_4 rfl (lv_at hl 2 rfl) ?_
  refine g_i (wr := [(q3, .inl (g.2 1, 1, .inr (.inl f74)))]) (rV (rest := [.int 0, .ref q3]) hx hb hml hown hE hP hD 21 rfl rfl (c2125_X9_setPriority l g q1 q17 q21 q24 q26 q34 q35 q36 q37 q45 q46 q47 q48 q51 q52 q55 q56 q63 q64 q69 q70 x2 w7 w8 w9 w10 w11 w12 w13 w14 w15 w16 w31 w32 w33 w67 w68 f22 f57 f58 f71 f72 (hf23) (hf25) (hf73) h4 h5 s.heap.size) (kV_X9_setPriority hE (e1006 hE) rfl rfl ⟨(Nat.le_of_ble_eq_true rfl), (Nat.le_of_ble_eq_true rfl)⟩) [1, 2, 3, 4, 5, 6, 7, 8, 9, 10, 11, 12, 13, 14, 15, 16, 17, 18, 19, 20, 21] rfl (by decide) rfl hl.1 rfl (lv_room (Nat.le_of_ble_eq_true rfl)) dL_setPriority_5 ⟨(Nat.le_of_ble_eq_true rfl), (Nat.le_of_ble_eq_true rfl)⟩) hP hD hS hA [1, 2, 3, 4, 5, 6, 7, 8, 9, 10, 11, 12, 13, 14, 15, 16, 17, 18, 19, 20, 21] [0] rfl rfl (by decide) (by decide) (fun u1 H locs hP hD hS => ?_)
  have hP : va_P g.1 vwCl [(q3, .inl (g.2 1, 1, .inr (.inl f74))), (q21, .inl (g.2 3, 10, .inr (.inr (.inr (.inr f22))))), (q26, .inr (8, [.ref q45, .ref q46, .ref q47, .ref q48, .int 0, .int 4, .int 0])), (q34, .inr (5, [.ref q55, .ref q56])), (q45, .inr (5, [.ref q51, .ref q52])), (q55, .inl (g.2 0, 384, .inl f57)), (q51, .inl (g.2 0, 384, .inl f57)), (q56, .inl (g.2 0, 40, .inl f58)), (q52, .inl (g.2 0, 40, .inl f58)), (q35, .inr (9, [.ref q69, .ref q70, .int 1, .int 0])), (q46, .inr (9, [.ref q63, .ref q64, .int 1, .int 0])), (q69, .inl (g.2 0, 10, .inl f57)), (q63, .inl (g.2 0, 10, .inl f57)), (q70, .inl (g.2 0, 10, .inl f71)), (q64, .inl (g.2 0, 10, .inl f71)), (q36, .inl (g.2 0, 60, .inl f57)), (q47, .inl (g.2 0, 60, .inl f57)), (q48, .inl (g.2 0, 20, .inl f72)), (q24, .inr (8, [.ref q34, .ref q35, .ref q36, .ref q37, .int 0, .int 4, .int 0])), (q37, .inl (g.2 0, 20, .inl (upd f72 9 x2))), (q17, .inr (10, [.ref q21, .int 1, .int 1])), (q1, .inr (11, [.ref q17, w7, w8, w9, w10, w11, w12, w13, .int 0, .int 0, w16]))] H := hP
  have hD : va_D A [(q3, .inl (g.2 1, 1, .inr (.inl f74))), (q21, .inl (g.2 3, 10, .inr (.inr (.inr (.inr f22))))), (q26, .inr (8, [.ref q45, .ref q46, .ref q47, .ref q48, .int 0, .int 4, .int 0])), (q34, .inr (5, [.ref q55, .ref q56])), (q45, .inr (5, [.ref q51, .ref q52])), (q55, .inl (g.2 0, 384, .inl f57)), (q51, .inl (g.2 0, 384, .inl f57)), (q56, .inl (g.2 0, 40, .inl f58)), (q52, .inl (g.2 0, 40, .inl f58)), (q35, .inr (9, [.ref q69, .ref q70, .int 1, .int 0])), (q46, .inr (9, [.ref q63, .ref q64, .int 1, .int 0])), (q69, .inl (g.2 0, 10, .inl f57)), (q63, .inl (g.2 0, 10, .inl f57)), (q70, .inl (g.2 0, 10, .inl f71)), (q64, .inl (g.2 0, 10, .inl f71)), (q36, .inl (g.2 0, 60, .inl f57)), (q47, .inl (g.2 0, 60, .inl f57)), (q48, .inl (g.2 0, 20, .inl f72)), (q24, .inr (8, [.ref q34, .ref q35, .ref q36, .ref q37, .int 0, .int 4, .int 0])), (q37, .inl (g.2 0, 20, .inl (upd f72 9 x2))), (q17, .inr (10, [.ref q21, .int 1, .int 1])), (q1, .inr (11, [.ref q17, w7, w8, w9, w10, w11, w12, w13, .int 0, .int 0, w16]))] := hD
  refine lv_i2l (v := 5) hx hb dL_setPriority_8 (by decide) ?_
  refine x_last (ws' := [(q3, .inl (g.2 1, 1, .inr (.inl (vp_updL f74 0 5)))), (q21, .inl (g.2 3, 10, .inr (.inr (.inr (.inr f22))))), (q26, .inr (8, [.ref q45, .ref q46, .ref q47, .ref q48, .int 0, .int 4, .int 0])), (q34, .inr (5, [.ref q55, .ref q56])), (q45, .inr (5, [.ref q51, .ref q52])), (q55, .inl (g.2 0, 384, .inl f57)), (q51, .inl (g.2 0, 384, .inl f57)), (q56, .inl (g.2 0, 40, .inl f58)), (q52, .inl (g.2 0, 40, .inl f58)), (q35, .inr (9, [.ref q69, .ref q70, .int 1, .int 0])), (q46, .inr (9, [.ref q63, .ref q64, .int 1, .int 0])), (q69, .inl (g.2 0, 10, .inl f57)), (q63, .inl (g.2 0, 10, .inl f57)), (q70, .inl (g.2 0, 10, .inl f71)), (q64, .inl (g.2 0, 10, .inl f71)), (q36, .inl (g.2 0, 60, .inl f57)), (q47, .inl (g.2 0, 60, .inl f57)), (q48, .inl (g.2 0, 20, .inl f72)), (q24, .inr (8, [.ref q34, .ref q35, .ref q36, .ref q37, .int 0, .int 4, .int 0])), (q37, .inl (g.2 0, 20, .inl (upd f72 9 x2))), (q17, .inr (10, [.ref q21, .int 1, .int 1])), (q1, .inr (11, [.ref q17, w7, w8, w9, w10, w11, w12, w13, .int 0, .int 0, w16]))]) hx hb hE hP hD hS 0 rfl 0 (x_in (by decide)) (by decide) dL_setPriority_9 rfl (fun H locs hP hD hS => ?_)
  refine lv_goto (tgt := 21) hx hb dL_setPriority_10 (by decide) ?_
  refine lv_iconst (v := 0) hx hb dL_setPriority_21 (by decide) ?_
  exact x_zret hx hb hr rfl rfl hlocks hP hD hS hAe hsz (Nat.le_of_ble_eq_true rfl) (Nat.le_of_ble_eq_true rfl) (fun _ => 0) [0] (by decide) rfl dL_setPriority_22

set_option maxHeartbeats 4000000 in
set_option maxRecDepth 100000 in
theorem c2127_X10_sets (l : Launch) (g : gG) (q1 q42 q43 q44 : Nat) (x2 : Int32) (w6 w8 w11 w12 w13 w14 w15 w16 w17 w18 w19 w20 w21 w22 w23 w24 w25 w26 w27 w28 w29 w30 w31 w32 w33 w34 w35 w36 w37 w38 w39 w40 w41 : Value) (f45 : Nat → Int32) (f46 : Nat → Int32) (hf47 : f45 483 = 5) (h3 : (0 : Int32) ≤ x2) (h4 : x2 ≤ 9) (sz : Nat) : Met l yX10_sets [Cond.code yX10_sets cX10_sets 7 (some .int)] ({ frames := 2, cells := 0, slots := 0, locals := 41 } : Room) (va_Pc [.ref q1, .int 483, .int x2, .int 0, .int 9, .int 2] (PX g sz [(q44, .inl (g.2 0, 3976, .inl f46)), (q43, .inl (g.2 0, 497, .inl f46)), (q42, .inl (g.2 0, 497, .inl f45)), (q1, .inr (12, [.ref q42, w6, .ref q43, w8, .ref q44, .int 0, w11, w12, w13, w14, w15, w16, w17, w18, w19, w20, w21, w22, w23, w24, w25, w26, w27, w28, w29, w30, w31, w32, w33, w34, w35, w36, w37, w38, w39, w40, w41]))])) (QI g [(q44, .inl (g.2 0, 3976, .inl f46)), (q43, .inl (g.2 0, 497, .inl f46)), (q42, .inl (g.2 0, 497, .inl f45)), (q1, .inr (12, [.ref q42, w6, .ref q43, w8, .ref q44, .int 0, w11, w12, w13, w14, w15, w16, w17, w18, w19, w20, w21, w22, w23, w24, w25, w26, w27, w28, w29, w30, w31, w32, w33, w34, w35, w36, w37, w38, w39, w40, w41]))] sz 5 (fun _ => [(q42, .inl (g.2 0, 497, .inl (upd f45 483 x2))), (q44, .inl (g.2 0, 3976, .inl (cpF 497 (cpF 497 f45 f46) f46))), (q43, .inl (g.2 0, 497, .inl (cpF 497 f45 f46))), (q1, .inr (12, [.ref q42, w6, .ref q43, w8, .ref q44, .int 1, .int 0, w12, w13, w14, w15, w16, w17, w18, w19, w20, w21, w22, w23, w24, w25, w26, w27, w28, w29, w30, w31, w32, w33, w34, w35, w36, w37, w38, w39, w40, w41]))])) 0 0 (va_A [(q44, .inl (g.2 0, 3976, .inl f46)), (q43, .inl (g.2 0, 497, .inl f46)), (q42, .inl (g.2 0, 497, .inl f45)), (q1, .inr (12, [.ref q42, w6, .ref q43, w8, .ref q44, .int 0, w11, w12, w13, w14, w15, w16, w17, w18, w19, w20, w21, w22, w23, w24, w25, w26, w27, w28, w29, w30, w31, w32, w33, w34, w35, w36, w37, w38, w39, w40, w41]))] sz) := by
  refine ofN (by decide) (Nat.le_of_ble_eq_true rfl) rfl ?_
  intro p e s m args below meth c A ls hAe hsz hx hb hml hr hlocks hin hown hE hP hD hA hS hl
  have hown : s.vm.findClass RX10 = some m.cls := hown
  refine lv_aload_n hx hb dX10_sets_0 rfl (lv_at hl 0 rfl) ?_
  refine lv_iload_n hx hb dX10_sets_1 rfl (lv_at hl 2 rfl) ?_
  refine lv_iload_n hx hb dX10_sets_2 rfl (lv_at hl 3 rfl) ?_
  refine lv_iload hx hb dX10_sets_3 (lv_at hl 4 rfl) ?_
  refine g0_i (rS (rest := [.ref q1]) hx hb hml hown hE hP hD (c2119_X10_in l g x2 h3 h4 s.heap.size) (kS_X10_in hE (e1431 hE) rfl rfl ⟨(Nat.le_of_ble_eq_true rfl), (Nat.le_of_ble_eq_true rfl)⟩) [] rfl (by decide) rfl hl.1 rfl (lv_room (Nat.le_of_ble_eq_true rfl)) dX10_sets_5 ⟨(Nat.le_of_ble_eq_true rfl), (Nat.le_of_ble_eq_true rfl)⟩) hP hD hS hA (fun u9 H locs hP hS => ?_)
  refine lv_if_eq (tgt := 15) hx hb dX10_sets_8 (by decide) (fun h => absurd h (by decide)) (fun _ => ?_)
  refine lv_iconst (v := 0) hx hb dX10_sets_11 (by decide) ?_
  refine lv_goto (tgt := 17) hx hb dX10_sets_12 (by decide) ?_
  refine pf_RX10_86 (ws' := [(q44, .inl (g.2 0, 3976, .inl f46)), (q43, .inl (g.2 0, 497, .inl f46)), (q42, .inl (g.2 0, 497, .inl f45)), (q1, .inr (12, [.ref q42, w6, .ref q43, w8, .ref q44, .int 0, .int 0, w12, w13, w14, w15, w16, w17, w18, w19, w20, w21, w22, w23, w24, w25, w26, w27, w28, w29, w30, w31, w32, w33, w34, w35, w36, w37, w38, w39, w40, w41]))]) hx hb hown hE hP hD hS 3 rfl rfl rfl (Nat.le_of_ble_eq_true rfl) dX10_sets_17 rfl (fun H locs hP hD hS => ?_)
  refine lv_aload_n hx hb dX10_sets_20 rfl (lv_at hl 0 rfl) ?_
  refine gf_RX10_86 hx hb hown hE hP 3 rfl rfl dX10_sets_21 ?_
  refine lv_if_le (tgt := 29) hx hb dX10_sets_24 (by decide) (fun _ => ?_) (fun h => absurd (by decide) h)
  refine lv_aload_n hx hb dX10_sets_29 rfl (lv_at hl 0 rfl) ?_
  refine g_v (wr := []) (rV (rest := []) hx hb hml hown hE hP hD 3 rfl rfl (c1714_X10_keepNow l g q1 q42 q43 q44 w6 w8 (.int 0) w12 w13 w14 w15 w16 w17 w18 w19 w20 w21 w22 w23 w24 w25 w26 w27 w28 w29 w30 w31 w32 w33 w34 w35 w36 w37 w38 w39 w40 w41 f45 f46 H.size) (kV_X10_keepNow hE (e1494 hE) rfl rfl ⟨(Nat.le_of_ble_eq_true rfl), (Nat.le_of_ble_eq_true rfl)⟩) [0, 1, 2, 3] rfl (by decide) rfl hl.1 rfl (lv_room (Nat.le_of_ble_eq_true rfl)) dX10_sets_30 ⟨(Nat.le_of_ble_eq_true rfl), (Nat.le_of_ble_eq_true rfl)⟩) hP hD hS hA [0, 1, 2, 3] [] rfl rfl (by decide) (by decide) (fun u2 H locs hP hD hS => ?_)
  have hP : va_P g.1 vwCl [(q42, .inl (g.2 0, 497, .inl f45)), (q44, .inl (g.2 0, 3976, .inl (cpF 497 (cpF 497 f45 f46) f46))), (q43, .inl (g.2 0, 497, .inl (cpF 497 f45 f46))), (q1, .inr (12, [.ref q42, w6, .ref q43, w8, .ref q44, .int 1, .int 0, w12, w13, w14, w15, w16, w17, w18, w19, w20, w21, w22, w23, w24, w25, w26, w27, w28, w29, w30, w31, w32, w33, w34, w35, w36, w37, w38, w39, w40, w41]))] H := hP
  have hD : va_D A [(q42, .inl (g.2 0, 497, .inl f45)), (q44, .inl (g.2 0, 3976, .inl (cpF 497 (cpF 497 f45 f46) f46))), (q43, .inl (g.2 0, 497, .inl (cpF 497 f45 f46))), (q1, .inr (12, [.ref q42, w6, .ref q43, w8, .ref q44, .int 1, .int 0, w12, w13, w14, w15, w16, w17, w18, w19, w20, w21, w22, w23, w24, w25, w26, w27, w28, w29, w30, w31, w32, w33, w34, w35, w36, w37, w38, w39, w40, w41]))] := hD
  refine lv_aload_n hx hb dX10_sets_33 rfl (lv_at hl 0 rfl) ?_
  refine gf_RX10_9 hx hb hown hE hP 3 rfl rfl dX10_sets_34 ?_
  refine lv_iload_n hx hb dX10_sets_37 rfl (lv_at hl 1 rfl) ?_
  refine x_iald (v := 5) hx hb hE hP 0 rfl 483 (x_in (by decide)) (by decide) hf47 dX10_sets_38 ?_
  refine lv_istore (lv' := [(6, .int 5), (0, .ref q1), (1, .int 483), (2, .int x2), (3, .int 0), (4, .int 9), (5, .int 2)]) hx hb dX10_sets_39 hl (by decide) rfl (fun ls hl => ?_)
  refine lv_aload_n hx hb dX10_sets_41 rfl (lv_at hl 1 rfl) ?_
  refine gf_RX10_9 hx hb hown hE hP 3 rfl rfl dX10_sets_42 ?_
  refine lv_iload_n hx hb dX10_sets_45 rfl (lv_at hl 2 rfl) ?_
  refine lv_iload_n hx hb dX10_sets_46 rfl (lv_at hl 3 rfl) ?_
  refine x_iast (ws' := [(q42, .inl (g.2 0, 497, .inl (upd f45 483 x2))), (q44, .inl (g.2 0, 3976, .inl (cpF 497 (cpF 497 f45 f46) f46))), (q43, .inl (g.2 0, 497, .inl (cpF 497 f45 f46))), (q1, .inr (12, [.ref q42, w6, .ref q43, w8, .ref q44, .int 1, .int 0, w12, w13, w14, w15, w16, w17, w18, w19, w20, w21, w22, w23, w24, w25, w26, w27, w28, w29, w30, w31, w32, w33, w34, w35, w36, w37, w38, w39, w40, w41]))]) hx hb hE hP hD hS 0 rfl 483 (x_in (by decide)) (by decide) dX10_sets_47 rfl (fun H locs hP hD hS => ?_)
  refine lv_iload hx hb dX10_sets_48 (lv_at hl 0 rfl) ?_
  exact x_zret hx hb hr rfl rfl hlocks hP hD hS hAe hsz (Nat.le_of_ble_eq_true rfl) (Nat.le_of_ble_eq_true rfl) (fun _ => 0) [0, 1, 2, 3] (by decide) rfl dX10_sets_50

set_option maxHeartbeats 4000000 in
set_option maxRecDepth 100000 in
theorem c2128_X10_setPriority (l : Launch) (g : gG) (q1 q42 q43 q44 : Nat) (x2 : Int32) (w4 w6 w9 w10 w11 w12 w13 w14 w15 w16 w17 w18 w19 w20 w21 w22 w23 w24 w25 w26 w27 w28 w29 w30 w31 w32 w33 w34 w35 w36 w37 w38 w39 : Value) (f45 : Nat → Int32) (f46 : Nat → Int32) (hf47 : f45 483 = 5) (h40 : (0 : Int32) ≤ x2) (h41 : x2 ≤ 9) (sz : Nat) : Met l yX10_setPriority [Cond.code yX10_setPriority cX10_setPriority 3 (some .int)] ({ frames := 3, cells := 0, slots := 0, locals := 67 } : Room) (va_Pc [.ref q1, .int 1, .int x2] (PX g sz [(q44, .inl (g.2 0, 3976, .inl f46)), (q43, .inl (g.2 0, 497, .inl f46)), (q42, .inl (g.2 0, 497, .inl f45)), (q1, .inr (12, [.ref q42, w4, .ref q43, w6, .ref q44, .int 0, w9, w10, w11, w12, w13, w14, w15, w16, w17, w18, w19, w20, w21, w22, w23, w24, w25, w26, w27, w28, w29, w30, w31, w32, w33, w34, w35, w36, w37, w38, w39]))])) (QI g [(q44, .inl (g.2 0, 3976, .inl f46)), (q43, .inl (g.2 0, 497, .inl f46)), (q42, .inl (g.2 0, 497, .inl f45)), (q1, .inr (12, [.ref q42, w4, .ref q43, w6, .ref q44, .int 0, w9, w10, w11, w12, w13, w14, w15, w16, w17, w18, w19, w20, w21, w22, w23, w24, w25, w26, w27, w28, w29, w30, w31, w32, w33, w34, w35, w36, w37, w38, w39]))] sz 5 (fun _ => [(q1, .inr (12, [.ref q42, w4, .ref q43, w6, .ref q44, .int 1, .int 0, w10, w11, w12, w13, w14, w15, w16, w17, w18, w19, w20, w21, w22, w23, w24, w25, w26, w27, w28, w29, w30, w31, w32, w33, w34, w35, w36, w37, w38, w39]))])) 0 0 (va_A [(q44, .inl (g.2 0, 3976, .inl f46)), (q43, .inl (g.2 0, 497, .inl f46)), (q42, .inl (g.2 0, 497, .inl f45)), (q1, .inr (12, [.ref q42, w4, .ref q43, w6, .ref q44, .int 0, w9, w10, w11, w12, w13, w14, w15, w16, w17, w18, w19, w20, w21, w22, w23, w24, w25, w26, w27, w28, w29, w30, w31, w32, w33, w34, w35, w36, w37, w38, w39]))] sz) := by
  refine ofN (by decide) (Nat.le_of_ble_eq_true rfl) rfl ?_
  intro p e s m args below meth c A ls hAe hsz hx hb hml hr hlocks hin hown hE hP hD hA hS hl
  have hown : s.vm.findClass RX10 = some m.cls := hown
  refine lv_aload_n hx hb dX10_setPriority_0 rfl (lv_at hl 0 rfl) ?_
  refine lv_iconst (v := 1) hx hb dX10_setPriority_1 (by decide) ?_
  refine pf_RX10_86 (ws' := [(q44, .inl (g.2 0, 3976, .inl f46)), (q43, .inl (g.2 0, 497, .inl f46)), (q42, .inl (g.2 0, 497, .inl f45)), (q1, .inr (12, [.ref q42, w4, .ref q43, w6, .ref q44, .int 0, .int 1, w10, w11, w12, w13, w14, w15, w16, w17, w18, w19, w20, w21, w22, w23, w24, w25, w26, w27, w28, w29, w30, w31, w32, w33, w34, w35, w36, w37, w38, w39]))]) hx hb hown hE hP hD hS 3 rfl rfl rfl (Nat.le_of_ble_eq_true rfl) dX10_setPriority_2 rfl (fun H locs hP hD hS => ?_)
  refine lv_iload_n hx hb dX10_setPriority_5 rfl (lv_at hl 1 rfl) ?_
  refine g0_i (rS (rest := []) hx hb hml hown hE hP hD (c1857_X10_isInstrument l g 1 (by decide) (by decide) H.size) (kS_X10_isInstrument hE (e1645 hE) rfl rfl ⟨(Nat.le_of_ble_eq_true rfl), (Nat.le_of_ble_eq_true rfl)⟩) [] rfl (by decide) rfl hl.1 rfl (lv_room (Nat.le_of_ble_eq_true rfl)) dX10_setPriority_6 ⟨(Nat.le_of_ble_eq_true rfl), (Nat.le_of_ble_eq_true rfl)⟩) hP hD hS hA (fun u9 H locs hP hS => ?_)
  refine lv_if_eq (tgt := 33) hx hb dX10_setPriority_9 (by decide) (fun h => absurd h (by decide)) (fun _ => ?_)
  refine lv_aload_n hx hb dX10_setPriority_12 rfl (lv_at hl 0 rfl) ?_
  refine lv_sipush (v := 474) hx hb dX10_setPriority_13 (by decide) ?_
  refine lv_iconst (v := 5) hx hb dX10_setPriority_16 (by decide) ?_
  refine lv_iload_n hx hb dX10_setPriority_17 rfl (lv_at hl 1 rfl) ?_
  refine x_imul (v := 5) hx hb dX10_setPriority_18 (by decide) ?_
  refine x_iadd (v := 479) hx hb dX10_setPriority_19 (by decide) ?_
  refine lv_iconst (v := 4) hx hb dX10_setPriority_20 (by decide) ?_
  refine x_iadd (v := 483) hx hb dX10_setPriority_21 (by decide) ?_
  refine lv_iload_n hx hb dX10_setPriority_22 rfl (lv_at hl 2 rfl) ?_
  refine lv_iconst (v := 0) hx hb dX10_setPriority_23 (by decide) ?_
  refine lv_bipush (v := 9) hx hb dX10_setPriority_24 (by decide) ?_
  refine lv_iconst (v := 2) hx hb dX10_setPriority_26 (by decide) ?_
  refine g_i (wr := []) (rV (rest := []) hx hb hml hown hE hP hD 3 rfl rfl (c2127_X10_sets l g q1 q42 q43 q44 x2 w4 w6 (.int 1) w10 w11 w12 w13 w14 w15 w16 w17 w18 w19 w20 w21 w22 w23 w24 w25 w26 w27 w28 w29 w30 w31 w32 w33 w34 w35 w36 w37 w38 w39 f45 f46 (hf47) h40 h41 H.size) (kV_X10_sets hE (e1628 hE) rfl rfl ⟨(Nat.le_of_ble_eq_true rfl), (Nat.le_of_ble_eq_true rfl)⟩) [0, 1, 2, 3] rfl (by decide) rfl hl.1 rfl (lv_room (Nat.le_of_ble_eq_true rfl)) dX10_setPriority_27 ⟨(Nat.le_of_ble_eq_true rfl), (Nat.le_of_ble_eq_true rfl)⟩) hP hD hS hA [0, 1, 2, 3] [] rfl rfl (by decide) (by decide) (fun u2 H locs hP hD hS => ?_)
  have hP : va_P g.1 vwCl [(q42, .inl (g.2 0, 497, .inl (upd f45 483 x2))), (q44, .inl (g.2 0, 3976, .inl (cpF 497 (cpF 497 f45 f46) f46))), (q43, .inl (g.2 0, 497, .inl (cpF 497 f45 f46))), (q1, .inr (12, [.ref q42, w4, .ref q43, w6, .ref q44, .int 1, .int 0, w10, w11, w12, w13, w14, w15, w16, w17, w18, w19, w20, w21, w22, w23, w24, w25, w26, w27, w28, w29, w30, w31, w32, w33, w34, w35, w36, w37, w38, w39]))] H := hP
  have hD : va_D A [(q42, .inl (g.2 0, 497, .inl (upd f45 483 x2))), (q44, .inl (g.2 0, 3976, .inl (cpF 497 (cpF 497 f45 f46) f46))), (q43, .inl (g.2 0, 497, .inl (cpF 497 f45 f46))), (q1, .inr (12, [.ref q42, w4, .ref q43, w6, .ref q44, .int 1, .int 0, w10, w11, w12, w13, w14, w15, w16, w17, w18, w19, w20, w21, w22, w23, w24, w25, w26, w27, w28, w29, w30, w31, w32, w33, w34, w35, w36, w37, w38, w39]))] := hD
  refine lv_goto (tgt := 34) hx hb dX10_setPriority_30 (by decide) ?_
  exact x_zret hx hb hr rfl rfl hlocks hP hD hS hAe hsz (Nat.le_of_ble_eq_true rfl) (Nat.le_of_ble_eq_true rfl) (fun _ => 0) [3] (by decide) rfl dX10_setPriority_34

set_option maxHeartbeats 4000000 in
set_option maxRecDepth 100000 in
theorem c2129_X6_instrumentNumber (l : Launch) (g : gG) (q1 q9 : Nat) (w2 w3 w4 w6 w7 w8 : Value) (f10 : Nat → Int32) (hf11 : f10 14 = 5) (sz : Nat) : Met l yX6_instrumentNumber [Cond.code yX6_instrumentNumber cX6_instrumentNumber 4 (some .int)] ({ frames := 0, cells := 0, slots := 0, locals := 0 } : Room) (va_Pc [.ref q1, .int 2, .int 4] (PX g sz [(q9, .inl (g.2 0, 20, .inl f10)), (q1, .inr (8, [w2, w3, w4, .ref q9, w6, w7, w8]))])) (QI g [(q9, .inl (g.2 0, 20, .inl f10)), (q1, .inr (8, [w2, w3, w4, .ref q9, w6, w7, w8]))] sz 5 (fun _ => [(q9, .inl (g.2 0, 20, .inl f10)), (q1, .inr (8, [w2, w3, w4, .ref q9, w6, w7, w8]))])) 0 0 (va_A [(q9, .inl (g.2 0, 20, .inl f10)), (q1, .inr (8, [w2, w3, w4, .ref q9, w6, w7, w8]))] sz) := by
  refine ofN (by decide) (Nat.le_of_ble_eq_true rfl) rfl ?_
  intro p e s m args below meth c A ls hAe hsz hx hb hml hr hlocks hin hown hE hP hD hA hS hl
  have hown : s.vm.findClass RX6 = some m.cls := hown
  refine lv_iload_n hx hb dX6_instrumentNumber_0 rfl (lv_at hl 1 rfl) ?_
  refine lv_iconst (v := 5) hx hb dX6_instrumentNumber_1 (by decide) ?_
  refine x_imul (v := 10) hx hb dX6_instrumentNumber_2 (by decide) ?_
  refine lv_iload_n hx hb dX6_instrumentNumber_3 rfl (lv_at hl 2 rfl) ?_
  refine x_iadd (v := 14) hx hb dX6_instrumentNumber_4 (by decide) ?_
  refine lv_istore_n (lv' := [(3, .int 14), (0, .ref q1), (1, .int 2), (2, .int 4)]) hx hb dX6_instrumentNumber_5 rfl hl (by decide) rfl (fun ls hl => ?_)
  refine lv_iload_n hx hb dX6_instrumentNumber_6 rfl (lv_at hl 0 rfl) ?_
  refine lv_if_lt (tgt := 28) hx hb dX6_instrumentNumber_7 (by decide) (fun h => absurd h (by decide)) (fun _ => ?_)
  refine lv_iload_n hx hb dX6_instrumentNumber_10 rfl (lv_at hl 0 rfl) ?_
  refine lv_aload_n hx hb dX6_instrumentNumber_11 rfl (lv_at hl 1 rfl) ?_
  refine gf_RX6_29 hx hb hown hE hP 1 rfl rfl dX6_instrumentNumber_12 ?_
  refine x_aleni (v := 20) hx hb hE hP 0 rfl rfl dX6_instrumentNumber_15 ?_
  refine lv_icmp_ge (tgt := 28) hx hb dX6_instrumentNumber_16 (by decide) (fun h => absurd h (by decide)) (fun _ => ?_)
  refine lv_aload_n hx hb dX6_instrumentNumber_19 rfl (lv_at hl 1 rfl) ?_
  refine gf_RX6_29 hx hb hown hE hP 1 rfl rfl dX6_instrumentNumber_20 ?_
  refine lv_iload_n hx hb dX6_instrumentNumber_23 rfl (lv_at hl 0 rfl) ?_
  refine x_iald (v := 5) hx hb hE hP 0 rfl 14 (x_in (by decide)) (by decide) hf11 dX6_instrumentNumber_24 ?_
  refine lv_goto (tgt := 29) hx hb dX6_instrumentNumber_25 (by decide) ?_
  exact x_zret hx hb hr rfl rfl hlocks hP hD hS hAe hsz (Nat.le_of_ble_eq_true rfl) (Nat.le_of_ble_eq_true rfl) (fun _ => 0) [0, 1] (by decide) rfl dX6_instrumentNumber_29

set_option maxHeartbeats 4000000 in
set_option maxRecDepth 100000 in
theorem c2130_X9_putAt (l : Launch) (g : gG) (q1 : Nat) (x2 : Int32) (f3 : Nat → Int32) (sz : Nat) : Met l yX9_putAt [Cond.code yX9_putAt cX9_putAt 3 none] ({ frames := 0, cells := 0, slots := 0, locals := 0 } : Room) (va_Pc [.ref q1, .int 14, .int x2] (PX g sz [(q1, .inl (g.2 0, 20, .inl f3))])) (QV g [(q1, .inl (g.2 0, 20, .inl f3))] sz (fun _ => [(q1, .inl (g.2 0, 20, .inl (upd f3 14 x2)))])) 0 0 (va_A [(q1, .inl (g.2 0, 20, .inl f3))] sz) := by
  refine ofN (by decide) (Nat.le_of_ble_eq_true rfl) rfl ?_
  intro p e s m args below meth c A ls hAe hsz hx hb hml hr hlocks hin hown hE hP hD hA hS hl
  have hown : s.vm.findClass RX9 = some m.cls := hown
  refine lv_iload_n hx hb dX9_putAt_0 rfl (lv_at hl 1 rfl) ?_
  refine lv_if_lt (tgt := 14) hx hb dX9_putAt_1 (by decide) (fun h => absurd h (by decide)) (fun _ => ?_)
  refine lv_iload_n hx hb dX9_putAt_4 rfl (lv_at hl 1 rfl) ?_
  refine lv_aload_n hx hb dX9_putAt_5 rfl (lv_at hl 0 rfl) ?_
  refine x_aleni (v := 20) hx hb hE hP 0 rfl rfl dX9_putAt_6 ?_
  refine lv_icmp_ge (tgt := 14) hx hb dX9_putAt_7 (by decide) (fun h => absurd h (by decide)) (fun _ => ?_)
  refine lv_aload_n hx hb dX9_putAt_10 rfl (lv_at hl 0 rfl) ?_
  refine lv_iload_n hx hb dX9_putAt_11 rfl (lv_at hl 1 rfl) ?_
  refine lv_iload_n hx hb dX9_putAt_12 rfl (lv_at hl 2 rfl) ?_
  refine x_iast (ws' := [(q1, .inl (g.2 0, 20, .inl (upd f3 14 x2)))]) hx hb hE hP hD hS 0 rfl 14 (x_in (by decide)) (by decide) dX9_putAt_13 rfl (fun H locs hP hD hS => ?_)
  exact x_vret hx hb hr hlocks hP hD hS hAe hsz (Nat.le_of_ble_eq_true rfl) (Nat.le_of_ble_eq_true rfl) (fun _ => 0) [0] (by decide) rfl dX9_putAt_14

set_option maxHeartbeats 4000000 in
set_option maxRecDepth 100000 in
theorem c2131_X6_putInstrumentNumber (l : Launch) (g : gG) (q1 q10 : Nat) (x2 : Int32) (w3 w4 w5 w7 w8 w9 : Value) (f11 : Nat → Int32) (sz : Nat) : Met l yX6_putInstrumentNumber [Cond.code yX6_putInstrumentNumber cX6_putInstrumentNumber 4 none] ({ frames := 1, cells := 0, slots := 0, locals := 22 } : Room) (va_Pc [.ref q1, .int 2, .int 4, .int x2] (PX g sz [(q10, .inl (g.2 0, 20, .inl f11)), (q1, .inr (8, [w3, w4, w5, .ref q10, w7, w8, w9]))])) (QV g [(q10, .inl (g.2 0, 20, .inl f11)), (q1, .inr (8, [w3, w4, w5, .ref q10, w7, w8, w9]))] sz (fun _ => [(q1, .inr (8, [w3, w4, w5, .ref q10, w7, w8, w9])), (q10, .inl (g.2 0, 20, .inl (upd f11 14 x2)))])) 0 0 (va_A [(q10, .inl (g.2 0, 20, .inl f11)), (q1, .inr (8, [w3, w4, w5, .ref q10, w7, w8, w9]))] sz) := by
  refine ofN (by decide) (Nat.le_of_ble_eq_true rfl) rfl ?_
  intro p e s m args below meth c A ls hAe hsz hx hb hml hr hlocks hin hown hE hP hD hA hS hl
  have hown : s.vm.findClass RX6 = some m.cls := hown
  refine lv_aload_n hx hb dX6_putInstrumentNumber_0 rfl (lv_at hl 0 rfl) ?_
  refine gf_RX6_29 hx hb hown hE hP 1 rfl rfl dX6_putInstrumentNumber_1 ?_
  refine lv_iload_n hx hb dX6_putInstrumentNumber_4 rfl (lv_at hl 1 rfl) ?_
  refine lv_iconst (v := 5) hx hb dX6_putInstrumentNumber_5 (by decide) ?_
  refine x_imul (v := 10) hx hb dX6_putInstrumentNumber_6 (by decide) ?_
  refine lv_iload_n hx hb dX6_putInstrumentNumber_7 rfl (lv_at hl 2 rfl) ?_
  refine x_iadd (v := 14) hx hb dX6_putInstrumentNumber_8 (by decide) ?_
  refine lv_iload_n hx hb dX6_putInstrumentNumber_9 rfl (lv_at hl 3 rfl) ?_
  refine g_v (wr := [(q1, .inr (8, [w3, w4, w5, .ref q10, w7, w8, w9]))]) (rSN (rest := []) hx hb hml hown hE hP hD (c2130_X9_putAt l g q10 x2 f11 s.heap.size) (kSN_X9_putAt hE (e107 hE) rfl rfl ⟨(Nat.le_of_ble_eq_true rfl), (Nat.le_of_ble_eq_true rfl)⟩) [0] rfl (by decide) rfl hl.1 rfl (lv_room (Nat.le_of_ble_eq_true rfl)) dX6_putInstrumentNumber_10 ⟨(Nat.le_of_ble_eq_true rfl), (Nat.le_of_ble_eq_true rfl)⟩) hP hD hS hA [0] [1] rfl rfl (by decide) (by decide) (fun u1 H locs hP hD hS => ?_)
  have hP : va_P g.1 vwCl [(q1, .inr (8, [w3, w4, w5, .ref q10, w7, w8, w9])), (q10, .inl (g.2 0, 20, .inl (upd f11 14 x2)))] H := hP
  have hD : va_D A [(q1, .inr (8, [w3, w4, w5, .ref q10, w7, w8, w9])), (q10, .inl (g.2 0, 20, .inl (upd f11 14 x2)))] := hD
  exact x_vret hx hb hr hlocks hP hD hS hAe hsz (Nat.le_of_ble_eq_true rfl) (Nat.le_of_ble_eq_true rfl) (fun _ => 0) [0, 1] (by decide) rfl dX6_putInstrumentNumber_13

set_option maxHeartbeats 4000000 in
set_option maxRecDepth 100000 in
theorem c2132_X9_setPriority (l : Launch) (g : gG) (q1 q16 q20 q23 q25 q33 q34 q35 q36 q44 q45 q46 q47 q50 q51 q54 q55 q62 q63 q68 q69 : Nat) (x2 : Int32) (w6 w7 w8 w9 w10 w11 w12 w13 w14 w15 w30 w31 w32 w66 w67 : Value) (f21 : Nat → Option Nat) (f56 : Nat → Int32) (f57 : Nat → Int32) (f70 : Nat → Int32) (f71 : Nat → Int32) (hf22 : f21 1 = some q23) (hf24 : f21 0 = some q25) (hf72 : f71 14 = 5) (h3 : (0 : Int32) ≤ x2) (h4 : x2 ≤ 9) (sz : Nat) : Met l yX9_setPriority [Cond.code yX9_setPriority cX9_setPriority 5 (some .int)] ({ frames := 5, cells := 0, slots := 0, locals := 148 } : Room) (va_Pc [.ref q1, .int 2, .int x2] (PX g sz [(q36, .inl (g.2 0, 20, .inl f71)), (q47, .inl (g.2 0, 20, .inl f71)), (q35, .inl (g.2 0, 60, .inl f56)), (q46, .inl (g.2 0, 60, .inl f56)), (q69, .inl (g.2 0, 10, .inl f70)), (q63, .inl (g.2 0, 10, .inl f70)), (q68, .inl (g.2 0, 10, .inl f56)), (q62, .inl (g.2 0, 10, .inl f56)), (q34, .inr (9, [.ref q68, .ref q69, w66, w67])), (q45, .inr (9, [.ref q62, .ref q63, .int 1, .int 0])), (q55, .inl (g.2 0, 40, .inl f57)), (q51, .inl (g.2 0, 40, .inl f57)), (q54, .inl (g.2 0, 384, .inl f56)), (q50, .inl (g.2 0, 384, .inl f56)), (q33, .inr (5, [.ref q54, .ref q55])), (q44, .inr (5, [.ref q50, .ref q51])), (q25, .inr (8, [.ref q44, .ref q45, .ref q46, .ref q47, .int 0, .int 4, .int 0])), (q23, .inr (8, [.ref q33, .ref q34, .ref q35, .ref q36, w30, w31, w32])), (q20, .inl (g.2 3, 10, .inr (.inr (.inr (.inr f21))))), (q16, .inr (10, [.ref q20, .int 0, .int 0])), (q1, .inr (11, [.ref q16, w6, w7, w8, w9, w10, w11, w12, w13, w14, w15]))])) (QI g [(q36, .inl (g.2 0, 20, .inl f71)), (q47, .inl (g.2 0, 20, .inl f71)), (q35, .inl (g.2 0, 60, .inl f56)), (q46, .inl (g.2 0, 60, .inl f56)), (q69, .inl (g.2 0, 10, .inl f70)), (q63, .inl (g.2 0, 10, .inl f70)), (q68, .inl (g.2 0, 10, .inl f56)), (q62, .inl (g.2 0, 10, .inl f56)), (q34, .inr (9, [.ref q68, .ref q69, w66, w67])), (q45, .inr (9, [.ref q62, .ref q63, .int 1, .int 0])), (q55, .inl (g.2 0, 40, .inl f57)), (q51, .inl (g.2 0, 40, .inl f57)), (q54, .inl (g.2 0, 384, .inl f56)), (q50, .inl (g.2 0, 384, .inl f56)), (q33, .inr (5, [.ref q54, .ref q55])), (q44, .inr (5, [.ref q50, .ref q51])), (q25, .inr (8, [.ref q44, .ref q45, .ref q46, .ref q47, .int 0, .int 4, .int 0])), (q23, .inr (8, [.ref q33, .ref q34, .ref q35, .ref q36, w30, w31, w32])), (q20, .inl (g.2 3, 10, .inr (.inr (.inr (.inr f21))))), (q16, .inr (10, [.ref q20, .int 0, .int 0])), (q1, .inr (11, [.ref q16, w6, w7, w8, w9, w10, w11, w12, w13, w14, w15]))] sz 5 (fun _ => [(q20, .inl (g.2 3, 10, .inr (.inr (.inr (.inr f21))))), (q25, .inr (8, [.ref q44, .ref q45, .ref q46, .ref q47, .int 0, .int 4, .int 0])), (q33, .inr (5, [.ref q54, .ref q55])), (q44, .inr (5, [.ref q50, .ref q51])), (q54, .inl (g.2 0, 384, .inl f56)), (q50, .inl (g.2 0, 384, .inl f56)), (q55, .inl (g.2 0, 40, .inl f57)), (q51, .inl (g.2 0, 40, .inl f57)), (q34, .inr (9, [.ref q68, .ref q69, .int 1, .int 0])), (q45, .inr (9, [.ref q62, .ref q63, .int 1, .int 0])), (q68, .inl (g.2 0, 10, .inl f56)), (q62, .inl (g.2 0, 10, .inl f56)), (q69, .inl (g.2 0, 10, .inl f70)), (q63, .inl (g.2 0, 10, .inl f70)), (q35, .inl (g.2 0, 60, .inl f56)), (q46, .inl (g.2 0, 60, .inl f56)), (q47, .inl (g.2 0, 20, .inl f71)), (q23, .inr (8, [.ref q33, .ref q34, .ref q35, .ref q36, .int 0, .int 4, .int 0])), (q36, .inl (g.2 0, 20, .inl (upd f71 14 x2))), (q16, .inr (10, [.ref q20, .int 1, .int 1])), (q1, .inr (11, [.ref q16, w6, w7, w8, w9, w10, w11, w12, .int 0, .int 0, w15]))])) 0 0 (va_A [(q36, .inl (g.2 0, 20, .inl f71)), (q47, .inl (g.2 0, 20, .inl f71)), (q35, .inl (g.2 0, 60, .inl f56)), (q46, .inl (g.2 0, 60, .inl f56)), (q69, .inl (g.2 0, 10, .inl f70)), (q63, .inl (g.2 0, 10, .inl f70)), (q68, .inl (g.2 0, 10, .inl f56)), (q62, .inl (g.2 0, 10, .inl f56)), (q34, .inr (9, [.ref q68, .ref q69, w66, w67])), (q45, .inr (9, [.ref q62, .ref q63, .int 1, .int 0])), (q55, .inl (g.2 0, 40, .inl f57)), (q51, .inl (g.2 0, 40, .inl f57)), (q54, .inl (g.2 0, 384, .inl f56)), (q50, .inl (g.2 0, 384, .inl f56)), (q33, .inr (5, [.ref q54, .ref q55])), (q44, .inr (5, [.ref q50, .ref q51])), (q25, .inr (8, [.ref q44, .ref q45, .ref q46, .ref q47, .int 0, .int 4, .int 0])), (q23, .inr (8, [.ref q33, .ref q34, .ref q35, .ref q36, w30, w31, w32])), (q20, .inl (g.2 3, 10, .inr (.inr (.inr (.inr f21))))), (q16, .inr (10, [.ref q20, .int 0, .int 0])), (q1, .inr (11, [.ref q16, w6, w7, w8, w9, w10, w11, w12, w13, w14, w15]))] sz) := by
  refine ofN (by decide) (Nat.le_of_ble_eq_true rfl) rfl ?_
  intro p e s m args below meth c A ls hAe hsz hx hb hml hr hlocks hin hown hE hP hD hA hS hl
  have hown : s.vm.findClass RX9 = some m.cls := hown
  refine lv_iload_n hx hb dX9_setPriority_0 rfl (lv_at hl 1 rfl) ?_
  refine g0_v (rS (rest := []) hx hb hml hown hE hP hD (c1854_X9_requireInstrument l g 2 (by decide) (by decide) s.heap.size) (kS_X9_requireInstrument hE (e991 hE) rfl rfl ⟨(Nat.le_of_ble_eq_true rfl), (Nat.le_of_ble_eq_true rfl)⟩) [] rfl (by decide) rfl hl.1 rfl (lv_room (Nat.le_of_ble_eq_true rfl)) dX9_setPriority_1 ⟨(Nat.le_of_ble_eq_true rfl), (Nat.le_of_ble_eq_true rfl)⟩) hP hD hS hA (fun u9 H locs hP hS => ?_)
  refine lv_iload_n hx hb dX9_setPriority_4 rfl (lv_at hl 2 rfl) ?_
  refine lv_iconst (v := 0) hx hb dX9_setPriority_5 (by decide) ?_
  refine lv_bipush (v := 9) hx hb dX9_setPriority_6 (by decide) ?_
  refine g0_v (rS (rest := []) hx hb hml hown hE hP hD (c2113_X9_requireRange l g x2 h3 h4 H.size) (kS_X9_requireRange hE (e636 hE) rfl rfl ⟨(Nat.le_of_ble_eq_true rfl), (Nat.le_of_ble_eq_true rfl)⟩) [] rfl (by decide) rfl hl.1 rfl (lv_room (Nat.le_of_ble_eq_true rfl)) dX9_setPriority_8 ⟨(Nat.le_of_ble_eq_true rfl), (Nat.le_of_ble_eq_true rfl)⟩) hP hD hS hA (fun u9 H locs hP hS => ?_)
  refine lv_aload_n hx hb dX9_setPriority_11 rfl (lv_at hl 0 rfl) ?_
  refine gf_RX9_12 hx hb hown hE hP 20 rfl rfl dX9_setPriority_12 ?_
  refine g_r (wr := [(q1, .inr (11, [.ref q16, w6, w7, w8, w9, w10, w11, w12, w13, w14, w15]))]) (rV (rest := []) hx hb hml hown hE hP hD 19 rfl rfl (c127_X8_draft l g q16 q20 q23 q25 q33 q44 q50 q54 q51 q55 q34 q45 q62 q68 q63 q69 q46 q35 q47 q36 (.int 0) w30 w31 w32 w66 w67 f21 f56 f57 f70 f71 (hf22) (hf24) H.size) (kV_X8_draft hE (e659 hE) rfl rfl ⟨(Nat.le_of_ble_eq_true rfl), (Nat.le_of_ble_eq_true rfl)⟩) [0, 1, 2, 3, 4, 5, 6, 7, 8, 9, 10, 11, 12, 13, 14, 15, 16, 17, 18, 19] rfl (by decide) rfl hl.1 rfl (lv_room (Nat.le_of_ble_eq_true rfl)) dX9_setPriority_15 ⟨(Nat.le_of_ble_eq_true rfl), (Nat.le_of_ble_eq_true rfl)⟩) hP hD hS hA [0, 1, 2, 3, 4, 5, 6, 7, 8, 9, 10, 11, 12, 13, 14, 15, 16, 17, 18, 19] [20] rfl rfl (by decide) (by decide) (fun u3 H locs hP hD hS => ?_)
  have hP : va_P g.1 vwCl [(q1, .inr (11, [.ref q16, w6, w7, w8, w9, w10, w11, w12, w13, w14, w15])), (q20, .inl (g.2 3, 10, .inr (.inr (.inr (.inr f21))))), (q16, .inr (10, [.ref q20, .int 0, .int 0])), (q25, .inr (8, [.ref q44, .ref q45, .ref q46, .ref q47, .int 0, .int 4, .int 0])), (q23, .inr (8, [.ref q33, .ref q34, .ref q35, .ref q36, .int 0, .int 4, .int 0])), (q33, .inr (5, [.ref q54, .ref q55])), (q44, .inr (5, [.ref q50, .ref q51])), (q54, .inl (g.2 0, 384, .inl f56)), (q50, .inl (g.2 0, 384, .inl f56)), (q55, .inl (g.2 0, 40, .inl f57)), (q51, .inl (g.2 0, 40, .inl f57)), (q34, .inr (9, [.ref q68, .ref q69, .int 1, .int 0])), (q45, .inr (9, [.ref q62, .ref q63, .int 1, .int 0])), (q68, .inl (g.2 0, 10, .inl f56)), (q62, .inl (g.2 0, 10, .inl f56)), (q69, .inl (g.2 0, 10, .inl f70)), (q63, .inl (g.2 0, 10, .inl f70)), (q35, .inl (g.2 0, 60, .inl f56)), (q46, .inl (g.2 0, 60, .inl f56)), (q36, .inl (g.2 0, 20, .inl f71)), (q47, .inl (g.2 0, 20, .inl f71))] H := hP
  have hD : va_D A [(q1, .inr (11, [.ref q16, w6, w7, w8, w9, w10, w11, w12, w13, w14, w15])), (q20, .inl (g.2 3, 10, .inr (.inr (.inr (.inr f21))))), (q16, .inr (10, [.ref q20, .int 0, .int 0])), (q25, .inr (8, [.ref q44, .ref q45, .ref q46, .ref q47, .int 0, .int 4, .int 0])), (q23, .inr (8, [.ref q33, .ref q34, .ref q35, .ref q36, .int 0, .int 4, .int 0])), (q33, .inr (5, [.ref q54, .ref q55])), (q44, .inr (5, [.ref q50, .ref q51])), (q54, .inl (g.2 0, 384, .inl f56)), (q50, .inl (g.2 0, 384, .inl f56)), (q55, .inl (g.2 0, 40, .inl f57)), (q51, .inl (g.2 0, 40, .inl f57)), (q34, .inr (9, [.ref q68, .ref q69, .int 1, .int 0])), (q45, .inr (9, [.ref q62, .ref q63, .int 1, .int 0])), (q68, .inl (g.2 0, 10, .inl f56)), (q62, .inl (g.2 0, 10, .inl f56)), (q69, .inl (g.2 0, 10, .inl f70)), (q63, .inl (g.2 0, 10, .inl f70)), (q35, .inl (g.2 0, 60, .inl f56)), (q46, .inl (g.2 0, 60, .inl f56)), (q36, .inl (g.2 0, 20, .inl f71)), (q47, .inl (g.2 0, 20, .inl f71))] := hD
  refine lv_astore_n (lv' := [(3, .ref q23), (0, .ref q1), (1, .int 2), (2, .int x2)]) hx hb dX9_setPriority_18 rfl hl (by decide) rfl (fun ls hl => ?_)
  refine lv_aload_n hx hb dX9_setPriority_19 rfl (lv_at hl 0 rfl) ?_
  refine lv_iload_n hx hb dX9_setPriority_20 rfl (lv_at hl 2 rfl) ?_
  refine lv_iconst (v := 4) hx hb dX9_setPriority_21 (by decide) ?_
  refine g_i (wr := [(q1, .inr (11, [.ref q16, w6, w7, w8, w9, w10, w11, w12, w13, w14, w15])), (q20, .inl (g.2 3, 10, .inr (.inr (.inr (.inr f21))))), (q16, .inr (10, [.ref q20, .int 0, .int 0])), (q25, .inr (8, [.ref q44, .ref q45, .ref q46, .ref q47, .int 0, .int 4, .int 0])), (q33, .inr (5, [.ref q54, .ref q55])), (q44, .inr (5, [.ref q50, .ref q51])), (q54, .inl (g.2 0, 384, .inl f56)), (q50, .inl (g.2 0, 384, .inl f56)), (q55, .inl (g.2 0, 40, .inl f57)), (q51, .inl (g.2 0, 40, .inl f57)), (q34, .inr (9, [.ref q68, .ref q69, .int 1, .int 0])), (q45, .inr (9, [.ref q62, .ref q63, .int 1, .int 0])), (q68, .inl (g.2 0, 10, .inl f56)), (q62, .inl (g.2 0, 10, .inl f56)), (q69, .inl (g.2 0, 10, .inl f70)), (q63, .inl (g.2 0, 10, .inl f70)), (q35, .inl (g.2 0, 60, .inl f56)), (q46, .inl (g.2 0, 60, .inl f56)), (q47, .inl (g.2 0, 20, .inl f71))]) (rV (rest := []) hx hb hml hown hE hP hD 4 rfl rfl (c2129_X6_instrumentNumber l g q23 q36 (.ref q33) (.ref q34) (.ref q35) (.int 0) (.int 4) (.int 0) f71 (hf72) H.size) (kV_X6_instrumentNumber hE (e1010 hE) rfl rfl ⟨(Nat.le_of_ble_eq_true rfl), (Nat.le_of_ble_eq_true rfl)⟩) [19, 4] rfl (by decide) rfl hl.1 rfl (lv_room (Nat.le_of_ble_eq_true rfl)) dX9_setPriority_22 ⟨(Nat.le_of_ble_eq_true rfl), (Nat.le_of_ble_eq_true rfl)⟩) hP hD hS hA [19, 4] [0, 1, 2, 3, 5, 6, 7, 8, 9, 10, 11, 12, 13, 14, 15, 16, 17, 18, 20] rfl rfl (by decide) (by decide) (fun u4 H locs hP hD hS => ?_)
  have hP : va_P g.1 vwCl [(q1, .inr (11, [.ref q16, w6, w7, w8, w9, w10, w11, w12, w13, w14, w15])), (q20, .inl (g.2 3, 10, .inr (.inr (.inr (.inr f21))))), (q16, .inr (10, [.ref q20, .int 0, .int 0])), (q25, .inr (8, [.ref q44, .ref q45, .ref q46, .ref q47, .int 0, .int 4, .int 0])), (q33, .inr (5, [.ref q54, .ref q55])), (q44, .inr (5, [.ref q50, .ref q51])), (q54, .inl (g.2 0, 384, .inl f56)), (q50, .inl (g.2 0, 384, .inl f56)), (q55, .inl (g.2 0, 40, .inl f57)), (q51, .inl (g.2 0, 40, .inl f57)), (q34, .inr (9, [.ref q68, .ref q69, .int 1, .int 0])), (q45, .inr (9, [.ref q62, .ref q63, .int 1, .int 0])), (q68, .inl (g.2 0, 10, .inl f56)), (q62, .inl (g.2 0, 10, .inl f56)), (q69, .inl (g.2 0, 10, .inl f70)), (q63, .inl (g.2 0, 10, .inl f70)), (q35, .inl (g.2 0, 60, .inl f56)), (q46, .inl (g.2 0, 60, .inl f56)), (q47, .inl (g.2 0, 20, .inl f71)), (q36, .inl (g.2 0, 20, .inl f71)), (q23, .inr (8, [.ref q33, .ref q34, .ref q35, .ref q36, .int 0, .int 4, .int 0]))] H := hP
  have hD : va_D A [(q1, .inr (11, [.ref q16, w6, w7, w8, w9, w10, w11, w12, w13, w14, w15])), (q20, .inl (g.2 3, 10, .inr (.inr (.inr (.inr f21))))), (q16, .inr (10, [.ref q20, .int 0, .int 0])), (q25, .inr (8, [.ref q44, .ref q45, .ref q46, .ref q47, .int 0, .int 4, .int 0])), (q33, .inr (5, [.ref q54, .ref q55])), (q44, .inr (5, [.ref q50, .ref q51])), (q54, .inl (g.2 0, 384, .inl f56)), (q50, .inl (g.2 0, 384, .inl f56)), (q55, .inl (g.2 0, 40, .inl f57)), (q51, .inl (g.2 0, 40, .inl f57)), (q34, .inr (9, [.ref q68, .ref q69, .int 1, .int 0])), (q45, .inr (9, [.ref q62, .ref q63, .int 1, .int 0])), (q68, .inl (g.2 0, 10, .inl f56)), (q62, .inl (g.2 0, 10, .inl f56)), (q69, .inl (g.2 0, 10, .inl f70)), (q63, .inl (g.2 0, 10, .inl f70)), (q35, .inl (g.2 0, 60, .inl f56)), (q46, .inl (g.2 0, 60, .inl f56)), (q47, .inl (g.2 0, 20, .inl f71)), (q36, .inl (g.2 0, 20, .inl f71)), (q23, .inr (8, [.ref q33, .ref q34, .ref q35, .ref q36, .int 0, .int 4, .int 0]))] := hD
  refine lv_istore (lv' := [(4, .int 5), (3, .ref q23), (0, .ref q1), (1, .int 2), (2, .int x2)]) hx hb dX9_setPriority_25 hl (by decide) rfl (fun ls hl => ?_)
  refine lv_aload_n hx hb dX9_setPriority_27 rfl (lv_at hl 1 rfl) ?_
  refine lv_iload_n hx hb dX9_setPriority_28 rfl (lv_at hl 3 rfl) ?_
  refine lv_iconst (v := 4) hx hb dX9_setPriority_29 (by decide) ?_
  refine lv_iload_n hx hb dX9_setPriority_30 rfl (lv_at hl 4 rfl) ?_
  refine g_v (wr := [(q1, .inr (11, [.ref q16, w6, w7, w8, w9, w10, w11, w12, w13, w14, w15])), (q20, .inl (g.2 3, 10, .inr (.inr (.inr (.inr f21))))), (q16, .inr (10, [.ref q20, .int 0, .int 0])), (q25, .inr (8, [.ref q44, .ref q45, .ref q46, .ref q47, .int 0, .int 4, .int 0])), (q33, .inr (5, [.ref q54, .ref q55])), (q44, .inr (5, [.ref q50, .ref q51])), (q54, .inl (g.2 0, 384, .inl f56)), (q50, .inl (g.2 0, 384, .inl f56)), (q55, .inl (g.2 0, 40, .inl f57)), (q51, .inl (g.2 0, 40, .inl f57)), (q34, .inr (9, [.ref q68, .ref q69, .int 1, .int 0])), (q45, .inr (9, [.ref q62, .ref q63, .int 1, .int 0])), (q68, .inl (g.2 0, 10, .inl f56)), (q62, .inl (g.2 0, 10, .inl f56)), (q69, .inl (g.2 0, 10, .inl f70)), (q63, .inl (g.2 0, 10, .inl f70)), (q35, .inl (g.2 0, 60, .inl f56)), (q46, .inl (g.2 0, 60, .inl f56)), (q47, .inl (g.2 0, 20, .inl f71))]) (rV (rest := []) hx hb hml hown hE hP hD 20 rfl rfl (c2131_X6_putInstrumentNumber l g q23 q36 x2 (.ref q33) (.ref q34) (.ref q35) (.int 0) (.int 4) (.int 0) f71 H.size) (kV_X6_putInstrumentNumber hE (e1011 hE) rfl rfl ⟨(Nat.le_of_ble_eq_true rfl), (Nat.le_of_ble_eq_true rfl)⟩) [19, 20] rfl (by decide) rfl hl.1 rfl (lv_room (Nat.le_of_ble_eq_true rfl)) dX9_setPriority_31 ⟨(Nat.le_of_ble_eq_true rfl), (Nat.le_of_ble_eq_true rfl)⟩) hP hD hS hA [19, 20] [0, 1, 2, 3, 4, 5, 6, 7, 8, 9, 10, 11, 12, 13, 14, 15, 16, 17, 18] rfl rfl (by decide) (by decide) (fun u5 H locs hP hD hS => ?_)
  have hP : va_P g.1 vwCl [(q1, .inr (11, [.ref q16, w6, w7, w8, w9, w10, w11, w12, w13, w14, w15])), (q20, .inl (g.2 3, 10, .inr (.inr (.inr (.inr f21))))), (q16, .inr (10, [.ref q20, .int 0, .int 0])), (q25, .inr (8, [.ref q44, .ref q45, .ref q46, .ref q47, .int 0, .int 4, .int 0])), (q33, .inr (5, [.ref q54, .ref q55])), (q44, .inr (5, [.ref q50, .ref q51])), (q54, .inl (g.2 0, 384, .inl f56)), (q50, .inl (g.2 0, 384, .inl f56)), (q55, .inl (g.2 0, 40, .inl f57)), (q51, .inl (g.2 0, 40, .inl f57)), (q34, .inr (9, [.ref q68, .ref q69, .int 1, .int 0])), (q45, .inr (9, [.ref q62, .ref q63, .int 1, .int 0])), (q68, .inl (g.2 0, 10, .inl f56)), (q62, .inl (g.2 0, 10, .inl f56)), (q69, .inl (g.2 0, 10, .inl f70)), (q63, .inl (g.2 0, 10, .inl f70)), (q35, .inl (g.2 0, 60, .inl f56)), (q46, .inl (g.2 0, 60, .inl f56)), (q47, .inl (g.2 0, 20, .inl f71)), (q23, .inr (8, [.ref q33, .ref q34, .ref q35, .ref q36, .int 0, .int 4, .int 0])), (q36, .inl (g.2 0, 20, .inl (upd f71 14 x2)))] H := hP
  have hD : va_D A [(q1, .inr (11, [.ref q16, w6, w7, w8, w9, w10, w11, w12, w13, w14, w15])), (q20, .inl (g.2 3, 10, .inr (.inr (.inr (.inr f21))))), (q16, .inr (10, [.ref q20, .int 0, .int 0])), (q25, .inr (8, [.ref q44, .ref q45, .ref q46, .ref q47, .int 0, .int 4, .int 0])), (q33, .inr (5, [.ref q54, .ref q55])), (q44, .inr (5, [.ref q50, .ref q51])), (q54, .inl (g.2 0, 384, .inl f56)), (q50, .inl (g.2 0, 384, .inl f56)), (q55, .inl (g.2 0, 40, .inl f57)), (q51, .inl (g.2 0, 40, .inl f57)), (q34, .inr (9, [.ref q68, .ref q69, .int 1, .int 0])), (q45, .inr (9, [.ref q62, .ref q63, .int 1, .int 0])), (q68, .inl (g.2 0, 10, .inl f56)), (q62, .inl (g.2 0, 10, .inl f56)), (q69, .inl (g.2 0, 10, .inl f70)), (q63, .inl (g.2 0, 10, .inl f70)), (q35, .inl (g.2 0, 60, .inl f56)), (q46, .inl (g.2 0, 60, .inl f56)), (q47, .inl (g.2 0, 20, .inl f71)), (q23, .inr (8, [.ref q33, .ref q34, .ref q35, .ref q36, .int 0, .int 4, .int 0])), (q36, .inl (g.2 0, 20, .inl (upd f71 14 x2)))] := hD
  refine lv_aload_n hx hb dX9_setPriority_34 rfl (lv_at hl 2 rfl) ?_
  refine g_v (wr := [(q20, .inl (g.2 3, 10, .inr (.inr (.inr (.inr f21))))), (q25, .inr (8, [.ref q44, .ref q45, .ref q46, .ref q47, .int 0, .int 4, .int 0])), (q33, .inr (5, [.ref q54, .ref q55])), (q44, .inr (5, [.ref q50, .ref q51])), (q54, .inl (g.2 0, 384, .inl f56)), (q50, .inl (g.2 0, 384, .inl f56)), (q55, .inl (g.2 0, 40, .inl f57)), (q51, .inl (g.2 0, 40, .inl f57)), (q34, .inr (9, [.ref q68, .ref q69, .int 1, .int 0])), (q45, .inr (9, [.ref q62, .ref q63, .int 1, .int 0])), (q68, .inl (g.2 0, 10, .inl f56)), (q62, .inl (g.2 0, 10, .inl f56)), (q69, .inl (g.2 0, 10, .inl f70)), (q63, .inl (g.2 0, 10, .inl f70)), (q35, .inl (g.2 0, 60, .inl f56)), (q46, .inl (g.2 0, 60, .inl f56)), (q47, .inl (g.2 0, 20, .inl f71)), (q23, .inr (8, [.ref q33, .ref q34, .ref q35, .ref q36, .int 0, .int 4, .int 0])), (q36, .inl (g.2 0, 20, .inl (upd f71 14 x2)))]) (rV (rest := []) hx hb hml hown hE hP hD 0 rfl rfl (c191_X9_accept l g q1 q16 w6 w7 w8 w9 w10 w11 w12 w13 w14 w15 (.ref q20) H.size) (kV_X9_accept hE (e718 hE) rfl rfl ⟨(Nat.le_of_ble_eq_true rfl), (Nat.le_of_ble_eq_true rfl)⟩) [2, 0] rfl (by decide) rfl hl.1 rfl (lv_room (Nat.le_of_ble_eq_true rfl)) dX9_setPriority_35 ⟨(Nat.le_of_ble_eq_true rfl), (Nat.le_of_ble_eq_true rfl)⟩) hP hD hS hA [2, 0] [1, 3, 4, 5, 6, 7, 8, 9, 10, 11, 12, 13, 14, 15, 16, 17, 18, 19, 20] rfl rfl (by decide) (by decide) (fun u6 H locs hP hD hS => ?_)
  have hP : va_P g.1 vwCl [(q20, .inl (g.2 3, 10, .inr (.inr (.inr (.inr f21))))), (q25, .inr (8, [.ref q44, .ref q45, .ref q46, .ref q47, .int 0, .int 4, .int 0])), (q33, .inr (5, [.ref q54, .ref q55])), (q44, .inr (5, [.ref q50, .ref q51])), (q54, .inl (g.2 0, 384, .inl f56)), (q50, .inl (g.2 0, 384, .inl f56)), (q55, .inl (g.2 0, 40, .inl f57)), (q51, .inl (g.2 0, 40, .inl f57)), (q34, .inr (9, [.ref q68, .ref q69, .int 1, .int 0])), (q45, .inr (9, [.ref q62, .ref q63, .int 1, .int 0])), (q68, .inl (g.2 0, 10, .inl f56)), (q62, .inl (g.2 0, 10, .inl f56)), (q69, .inl (g.2 0, 10, .inl f70)), (q63, .inl (g.2 0, 10, .inl f70)), (q35, .inl (g.2 0, 60, .inl f56)), (q46, .inl (g.2 0, 60, .inl f56)), (q47, .inl (g.2 0, 20, .inl f71)), (q23, .inr (8, [.ref q33, .ref q34, .ref q35, .ref q36, .int 0, .int 4, .int 0])), (q36, .inl (g.2 0, 20, .inl (upd f71 14 x2))), (q16, .inr (10, [.ref q20, .int 1, .int 1])), (q1, .inr (11, [.ref q16, w6, w7, w8, w9, w10, w11, w12, .int 0, .int 0, w15]))] H := hP
  have hD : va_D A [(q20, .inl (g.2 3, 10, .inr (.inr (.inr (.inr f21))))), (q25, .inr (8, [.ref q44, .ref q45, .ref q46, .ref q47, .int 0, .int 4, .int 0])), (q33, .inr (5, [.ref q54, .ref q55])), (q44, .inr (5, [.ref q50, .ref q51])), (q54, .inl (g.2 0, 384, .inl f56)), (q50, .inl (g.2 0, 384, .inl f56)), (q55, .inl (g.2 0, 40, .inl f57)), (q51, .inl (g.2 0, 40, .inl f57)), (q34, .inr (9, [.ref q68, .ref q69, .int 1, .int 0])), (q45, .inr (9, [.ref q62, .ref q63, .int 1, .int 0])), (q68, .inl (g.2 0, 10, .inl f56)), (q62, .inl (g.2 0, 10, .inl f56)), (q69, .inl (g.2 0, 10, .inl f70)), (q63, .inl (g.2 0, 10, .inl f70)), (q35, .inl (g.2 0, 60, .inl f56)), (q46, .inl (g.2 0, 60, .inl f56)), (q47, .inl (g.2 0, 20, .inl f71)), (q23, .inr (8, [.ref q33, .ref q34, .ref q35, .ref q36, .int 0, .int 4, .int 0])), (q36, .inl (g.2 0, 20, .inl (upd f71 14 x2))), (q16, .inr (10, [.ref q20, .int 1, .int 1])), (q1, .inr (11, [.ref q16, w6, w7, w8, w9, w10, w11, w12, .int 0, .int 0, w15]))] := hD
  refine lv_iload hx hb dX9_setPriority_38 (lv_at hl 0 rfl) ?_
  exact x_zret hx hb hr rfl rfl hlocks hP hD hS hAe hsz (Nat.le_of_ble_eq_true rfl) (Nat.le_of_ble_eq_true rfl) (fun _ => 0) [0, 1, 2, 3, 4, 5, 6, 7, 8, 9, 10, 11, 12, 13, 14, 15, 16, 17, 18, 19, 20] (by decide) rfl dX9_setPriority_40

set_option maxHeartbeats 4000000 in
set_option maxRecDepth 100000 in
theorem c2133_L_setPriority (l : Launch) (g : gG) (hlx : l.stackTraces = false) (q1 q3 q17 q21 q24 q26 q34 q35 q36 q37 q45 q46 q47 q48 q51 q52 q55 q56 q63 q64 q69 q70 : Nat) (x2 : Int32) (w7 w8 w9 w10 w11 w12 w13 w14 w15 w16 w31 w32 w33 w67 w68 : Value) (f22 : Nat → Option Nat) (f57 : Nat → Int32) (f58 : Nat → Int32) (f71 : Nat → Int32) (f72 : Nat → Int32) (f74 : Nat → Int64) (hf23 : f22 1 = some q24) (hf25 : f22 0 = some q26) (hf73 : f72 14 = 5) (h4 : (0 : Int32) ≤ x2) (h5 : x2 ≤ 9) (sz : Nat) : Met l yL_setPriority [Cond.codeWith yL_setPriority cL_setPriority 5 (some .int) [(0, 10, 13, 13), (0, 10, 17, 15)]] ({ frames := 6, cells := 0, slots := 0, locals := 172 } : Room) (va_Pc [.ref q1, .int 2, .int x2, .ref q3] (PZ g sz [(q3, .inl (g.2 1, 1, .inr (.inl f74))), (q37, .inl (g.2 0, 20, .inl f72)), (q48, .inl (g.2 0, 20, .inl f72)), (q36, .inl (g.2 0, 60, .inl f57)), (q47, .inl (g.2 0, 60, .inl f57)), (q70, .inl (g.2 0, 10, .inl f71)), (q64, .inl (g.2 0, 10, .inl f71)), (q69, .inl (g.2 0, 10, .inl f57)), (q63, .inl (g.2 0, 10, .inl f57)), (q35, .inr (9, [.ref q69, .ref q70, w67, w68])), (q46, .inr (9, [.ref q63, .ref q64, .int 1, .int 0])), (q56, .inl (g.2 0, 40, .inl f58)), (q52, .inl (g.2 0, 40, .inl f58)), (q55, .inl (g.2 0, 384, .inl f57)), (q51, .inl (g.2 0, 384, .inl f57)), (q34, .inr (5, [.ref q55, .ref q56])), (q45, .inr (5, [.ref q51, .ref q52])), (q26, .inr (8, [.ref q45, .ref q46, .ref q47, .ref q48, .int 0, .int 4, .int 0])), (q24, .inr (8, [.ref q34, .ref q35, .ref q36, .ref q37, w31, w32, w33])), (q21, .inl (g.2 3, 10, .inr (.inr (.inr (.inr f22))))), (q17, .inr (10, [.ref q21, .int 0, .int 0])), (q1, .inr (11, [.ref q17, w7, w8, w9, w10, w11, w12, w13, w14, w15, w16]))])) (QI g [(q3, .inl (g.2 1, 1, .inr (.inl f74))), (q37, .inl (g.2 0, 20, .inl f72)), (q48, .inl (g.2 0, 20, .inl f72)), (q36, .inl (g.2 0, 60, .inl f57)), (q47, .inl (g.2 0, 60, .inl f57)), (q70, .inl (g.2 0, 10, .inl f71)), (q64, .inl (g.2 0, 10, .inl f71)), (q69, .inl (g.2 0, 10, .inl f57)), (q63, .inl (g.2 0, 10, .inl f57)), (q35, .inr (9, [.ref q69, .ref q70, w67, w68])), (q46, .inr (9, [.ref q63, .ref q64, .int 1, .int 0])), (q56, .inl (g.2 0, 40, .inl f58)), (q52, .inl (g.2 0, 40, .inl f58)), (q55, .inl (g.2 0, 384, .inl f57)), (q51, .inl (g.2 0, 384, .inl f57)), (q34, .inr (5, [.ref q55, .ref q56])), (q45, .inr (5, [.ref q51, .ref q52])), (q26, .inr (8, [.ref q45, .ref q46, .ref q47, .ref q48, .int 0, .int 4, .int 0])), (q24, .inr (8, [.ref q34, .ref q35, .ref q36, .ref q37, w31, w32, w33])), (q21, .inl (g.2 3, 10, .inr (.inr (.inr (.inr f22))))), (q17, .inr (10, [.ref q21, .int 0, .int 0])), (q1, .inr (11, [.ref q17, w7, w8, w9, w10, w11, w12, w13, w14, w15, w16]))] sz 0 (fun _ => [(q3, .inl (g.2 1, 1, .inr (.inl (vp_updL f74 0 5))))])) 0 0 (va_A [(q3, .inl (g.2 1, 1, .inr (.inl f74))), (q37, .inl (g.2 0, 20, .inl f72)), (q48, .inl (g.2 0, 20, .inl f72)), (q36, .inl (g.2 0, 60, .inl f57)), (q47, .inl (g.2 0, 60, .inl f57)), (q70, .inl (g.2 0, 10, .inl f71)), (q64, .inl (g.2 0, 10, .inl f71)), (q69, .inl (g.2 0, 10, .inl f57)), (q63, .inl (g.2 0, 10, .inl f57)), (q35, .inr (9, [.ref q69, .ref q70, w67, w68])), (q46, .inr (9, [.ref q63, .ref q64, .int 1, .int 0])), (q56, .inl (g.2 0, 40, .inl f58)), (q52, .inl (g.2 0, 40, .inl f58)), (q55, .inl (g.2 0, 384, .inl f57)), (q51, .inl (g.2 0, 384, .inl f57)), (q34, .inr (5, [.ref q55, .ref q56])), (q45, .inr (5, [.ref q51, .ref q52])), (q26, .inr (8, [.ref q45, .ref q46, .ref q47, .ref q48, .int 0, .int 4, .int 0])), (q24, .inr (8, [.ref q34, .ref q35, .ref q36, .ref q37, w31, w32, w33])), (q21, .inl (g.2 3, 10, .inr (.inr (.inr (.inr f22))))), (q17, .inr (10, [.ref q21, .int 0, .int 0])), (q1, .inr (11, [.ref q17, w7, w8, w9, w10, w11, w12, w13, w14, w15, w16]))] sz) := by
  refine ofH (by decide) (Nat.le_of_ble_eq_true rfl) rfl ?_
  intro p e s m args below meth c A ls hAe hsz hx hb hml hr hlocks hin hown hE hP hD hA hS hl htb hz
  have hown : s.vm.findClass RL = some m.cls := hown
  refine lv_aload_n hx hb dL_setPriority_0 rfl (lv_at hl 3 rfl) ?_
  refine lv_iconst (v := 0) hx hb dL_setPriority_1 (by decide) ?_
  refine lv_aload_n hx hb dL_setPriority_2 rfl (lv_at hl 0 rfl) ?_
  refine lv_iload_n hx hb dL_setPriority_3 rfl (lv_at hl 1 rfl) ?_
  refine lv_iload_n hx hb dL_setPriority_4 rfl (lv_at hl 2 rfl) ?_
  refine g_i (wr := [(q3, .inl (g.2 1, 1, .inr (.inl f74)))]) (rV (rest := [.int 0, .ref q3]) hx hb hml hown hE hP hD 21 rfl rfl (c2132_X9_setPriority l g q1 q17 q21 q24 q26 q34 q35 q36 q37 q45 q46 q47 q48 q51 q52 q55 q56 q63 q64 q69 q70 x2 w7 w8 w9 w10 w11 w12 w13 w14 w15 w16 w31 w32 w33 w67 w68 f22 f57 f58 f71 f72 (hf23) (hf25) (hf73) h4 h5 s.heap.size) (kV_X9_setPriority hE (e1006 hE) rfl rfl ⟨(Nat.le_of_ble_eq_true rfl), (Nat.le_of_ble_eq_true rfl)⟩) [1, 2, 3, 4, 5, 6, 7, 8, 9, 10, 11, 12, 13, 14, 15, 16, 17, 18, 19, 20, 21] rfl (by decide) rfl hl.1 rfl (lv_room (Nat.le_of_ble_eq_true rfl)) dL_setPriority_5 ⟨(Nat.le_of_ble_eq_true rfl), (Nat.le_of_ble_eq_true rfl)⟩) hP hD hS hA [1, 2, 3, 4, 5, 6, 7, 8, 9, 10, 11, 12, 13, 14, 15, 16, 17, 18, 19, 20, 21] [0] rfl rfl (by decide) (by decide) (fun u1 H locs hP hD hS => ?_)
  have hP : va_P g.1 vwCl [(q3, .inl (g.2 1, 1, .inr (.inl f74))), (q21, .inl (g.2 3, 10, .inr (.inr (.inr (.inr f22))))), (q26, .inr (8, [.ref q45, .ref q46, .ref q47, .ref q48, .int 0, .int 4, .int 0])), (q34, .inr (5, [.ref q55, .ref q56])), (q45, .inr (5, [.ref q51, .ref q52])), (q55, .inl (g.2 0, 384, .inl f57)), (q51, .inl (g.2 0, 384, .inl f57)), (q56, .inl (g.2 0, 40, .inl f58)), (q52, .inl (g.2 0, 40, .inl f58)), (q35, .inr (9, [.ref q69, .ref q70, .int 1, .int 0])), (q46, .inr (9, [.ref q63, .ref q64, .int 1, .int 0])), (q69, .inl (g.2 0, 10, .inl f57)), (q63, .inl (g.2 0, 10, .inl f57)), (q70, .inl (g.2 0, 10, .inl f71)), (q64, .inl (g.2 0, 10, .inl f71)), (q36, .inl (g.2 0, 60, .inl f57)), (q47, .inl (g.2 0, 60, .inl f57)), (q48, .inl (g.2 0, 20, .inl f72)), (q24, .inr (8, [.ref q34, .ref q35, .ref q36, .ref q37, .int 0, .int 4, .int 0])), (q37, .inl (g.2 0, 20, .inl (upd f72 14 x2))), (q17, .inr (10, [.ref q21, .int 1, .int 1])), (q1, .inr (11, [.ref q17, w7, w8, w9, w10, w11, w12, w13, .int 0, .int 0, w16]))] H := hP
  have hD : va_D A [(q3, .inl (g.2 1, 1, .inr (.inl f74))), (q21, .inl (g.2 3, 10, .inr (.inr (.inr (.inr f22))))), (q26, .inr (8, [.ref q45, .ref q46, .ref q47, .ref q48, .int 0, .int 4, .int 0])), (q34, .inr (5, [.ref q55, .ref q56])), (q45, .inr (5, [.ref q51, .ref q52])), (q55, .inl (g.2 0, 384, .inl f57)), (q51, .inl (g.2 0, 384, .inl f57)), (q56, .inl (g.2 0, 40, .inl f58)), (q52, .inl (g.2 0, 40, .inl f58)), (q35, .inr (9, [.ref q69, .ref q70, .int 1, .int 0])), (q46, .inr (9, [.ref q63, .ref q64, .int 1, .int 0])), (q69, .inl (g.2 0, 10, .inl f57)), (q63, .inl (g.2 0, 10, .inl f57)), (q70, .inl (g.2 0, 10, .inl f71)), (q64, .inl (g.2 0, 10, .inl f71)), (q36, .inl (g.2 0, 60, .inl f57)), (q47, .inl (g.2 0, 60, .inl f57)), (q48, .inl (g.2 0, 20, .inl f72)), (q24, .inr (8, [.ref q34, .ref q35, .ref q36, .ref q37, .int 0, .int 4, .int 0])), (q37, .inl (g.2 0, 20, .inl (upd f72 14 x2))), (q17, .inr (10, [.ref q21, .int 1, .int 1])), (q1, .inr (11, [.ref q17, w7, w8, w9, w10, w11, w12, w13, .int 0, .int 0, w16]))] := hD
  refine lv_i2l (v := 5) hx hb dL_setPriority_8 (by decide) ?_
  refine x_last (ws' := [(q3, .inl (g.2 1, 1, .inr (.inl (vp_updL f74 0 5)))), (q21, .inl (g.2 3, 10, .inr (.inr (.inr (.inr f22))))), (q26, .inr (8, [.ref q45, .ref q46, .ref q47, .ref q48, .int 0, .int 4, .int 0])), (q34, .inr (5, [.ref q55, .ref q56])), (q45, .inr (5, [.ref q51, .ref q52])), (q55, .inl (g.2 0, 384, .inl f57)), (q51, .inl (g.2 0, 384, .inl f57)), (q56, .inl (g.2 0, 40, .inl f58)), (q52, .inl (g.2 0, 40, .inl f58)), (q35, .inr (9, [.ref q69, .ref q70, .int 1, .int 0])), (q46, .inr (9, [.ref q63, .ref q64, .int 1, .int 0])), (q69, .inl (g.2 0, 10, .inl f57)), (q63, .inl (g.2 0, 10, .inl f57)), (q70, .inl (g.2 0, 10, .inl f71)), (q64, .inl (g.2 0, 10, .inl f71)), (q36, .inl (g.2 0, 60, .inl f57)), (q47, .inl (g.2 0, 60, .inl f57)), (q48, .inl (g.2 0, 20, .inl f72)), (q24, .inr (8, [.ref q34, .ref q35, .ref q36, .ref q37, .int 0, .int 4, .int 0])), (q37, .inl (g.2 0, 20, .inl (upd f72 14 x2))), (q17, .inr (10, [.ref q21, .int 1, .int 1])), (q1, .inr (11, [.ref q17, w7, w8, w9, w10, w11, w12, w13, .int 0, .int 0, w16]))]) hx hb hE hP hD hS 0 rfl 0 (x_in (by decide)) (by decide) dL_setPriority_9 rfl (fun H locs hP hD hS => ?_)
  refine lv_goto (tgt := 21) hx hb dL_setPriority_10 (by decide) ?_
  refine lv_iconst (v := 0) hx hb dL_setPriority_21 (by decide) ?_
  exact x_zret hx hb hr rfl rfl hlocks hP hD hS hAe hsz (Nat.le_of_ble_eq_true rfl) (Nat.le_of_ble_eq_true rfl) (fun _ => 0) [0] (by decide) rfl dL_setPriority_22

set_option maxHeartbeats 4000000 in
set_option maxRecDepth 100000 in
theorem c2134_X10_sets (l : Launch) (g : gG) (q1 q42 q43 q44 : Nat) (x2 : Int32) (w6 w8 w11 w12 w13 w14 w15 w16 w17 w18 w19 w20 w21 w22 w23 w24 w25 w26 w27 w28 w29 w30 w31 w32 w33 w34 w35 w36 w37 w38 w39 w40 w41 : Value) (f45 : Nat → Int32) (f46 : Nat → Int32) (hf47 : f45 488 = 5) (h3 : (0 : Int32) ≤ x2) (h4 : x2 ≤ 9) (sz : Nat) : Met l yX10_sets [Cond.code yX10_sets cX10_sets 7 (some .int)] ({ frames := 2, cells := 0, slots := 0, locals := 41 } : Room) (va_Pc [.ref q1, .int 488, .int x2, .int 0, .int 9, .int 2] (PX g sz [(q44, .inl (g.2 0, 3976, .inl f46)), (q43, .inl (g.2 0, 497, .inl f46)), (q42, .inl (g.2 0, 497, .inl f45)), (q1, .inr (12, [.ref q42, w6, .ref q43, w8, .ref q44, .int 0, w11, w12, w13, w14, w15, w16, w17, w18, w19, w20, w21, w22, w23, w24, w25, w26, w27, w28, w29, w30, w31, w32, w33, w34, w35, w36, w37, w38, w39, w40, w41]))])) (QI g [(q44, .inl (g.2 0, 3976, .inl f46)), (q43, .inl (g.2 0, 497, .inl f46)), (q42, .inl (g.2 0, 497, .inl f45)), (q1, .inr (12, [.ref q42, w6, .ref q43, w8, .ref q44, .int 0, w11, w12, w13, w14, w15, w16, w17, w18, w19, w20, w21, w22, w23, w24, w25, w26, w27, w28, w29, w30, w31, w32, w33, w34, w35, w36, w37, w38, w39, w40, w41]))] sz 5 (fun _ => [(q42, .inl (g.2 0, 497, .inl (upd f45 488 x2))), (q44, .inl (g.2 0, 3976, .inl (cpF 497 (cpF 497 f45 f46) f46))), (q43, .inl (g.2 0, 497, .inl (cpF 497 f45 f46))), (q1, .inr (12, [.ref q42, w6, .ref q43, w8, .ref q44, .int 1, .int 0, w12, w13, w14, w15, w16, w17, w18, w19, w20, w21, w22, w23, w24, w25, w26, w27, w28, w29, w30, w31, w32, w33, w34, w35, w36, w37, w38, w39, w40, w41]))])) 0 0 (va_A [(q44, .inl (g.2 0, 3976, .inl f46)), (q43, .inl (g.2 0, 497, .inl f46)), (q42, .inl (g.2 0, 497, .inl f45)), (q1, .inr (12, [.ref q42, w6, .ref q43, w8, .ref q44, .int 0, w11, w12, w13, w14, w15, w16, w17, w18, w19, w20, w21, w22, w23, w24, w25, w26, w27, w28, w29, w30, w31, w32, w33, w34, w35, w36, w37, w38, w39, w40, w41]))] sz) := by
  refine ofN (by decide) (Nat.le_of_ble_eq_true rfl) rfl ?_
  intro p e s m args below meth c A ls hAe hsz hx hb hml hr hlocks hin hown hE hP hD hA hS hl
  have hown : s.vm.findClass RX10 = some m.cls := hown
  refine lv_aload_n hx hb dX10_sets_0 rfl (lv_at hl 0 rfl) ?_
  refine lv_iload_n hx hb dX10_sets_1 rfl (lv_at hl 2 rfl) ?_
  refine lv_iload_n hx hb dX10_sets_2 rfl (lv_at hl 3 rfl) ?_
  refine lv_iload hx hb dX10_sets_3 (lv_at hl 4 rfl) ?_
  refine g0_i (rS (rest := [.ref q1]) hx hb hml hown hE hP hD (c2119_X10_in l g x2 h3 h4 s.heap.size) (kS_X10_in hE (e1431 hE) rfl rfl ⟨(Nat.le_of_ble_eq_true rfl), (Nat.le_of_ble_eq_true rfl)⟩) [] rfl (by decide) rfl hl.1 rfl (lv_room (Nat.le_of_ble_eq_true rfl)) dX10_sets_5 ⟨(Nat.le_of_ble_eq_true rfl), (Nat.le_of_ble_eq_true rfl)⟩) hP hD hS hA (fun u9 H locs hP hS => ?_)
  refine lv_if_eq (tgt := 15) hx hb dX10_sets_8 (by decide) (fun h => absurd h (by decide)) (fun _ => ?_)
  refine lv_iconst (v := 0) hx hb dX10_sets_11 (by decide) ?_
  refine lv_goto (tgt := 17) hx hb dX10_sets_12 (by decide) ?_
  refine pf_RX10_86 (ws' := [(q44, .inl (g.2 0, 3976, .inl f46)), (q43, .inl (g.2 0, 497, .inl f46)), (q42, .inl (g.2 0, 497, .inl f45)), (q1, .inr (12, [.ref q42, w6, .ref q43, w8, .ref q44, .int 0, .int 0, w12, w13, w14, w15, w16, w17, w18, w19, w20, w21, w22, w23, w24, w25, w26, w27, w28, w29, w30, w31, w32, w33, w34, w35, w36, w37, w38, w39, w40, w41]))]) hx hb hown hE hP hD hS 3 rfl rfl rfl (Nat.le_of_ble_eq_true rfl) dX10_sets_17 rfl (fun H locs hP hD hS => ?_)
  refine lv_aload_n hx hb dX10_sets_20 rfl (lv_at hl 0 rfl) ?_
  refine gf_RX10_86 hx hb hown hE hP 3 rfl rfl dX10_sets_21 ?_
  refine lv_if_le (tgt := 29) hx hb dX10_sets_24 (by decide) (fun _ => ?_) (fun h => absurd (by decide) h)
  refine lv_aload_n hx hb dX10_sets_29 rfl (lv_at hl 0 rfl) ?_
  refine g_v (wr := []) (rV (rest := []) hx hb hml hown hE hP hD 3 rfl rfl (c1714_X10_keepNow l g q1 q42 q43 q44 w6 w8 (.int 0) w12 w13 w14 w15 w16 w17 w18 w19 w20 w21 w22 w23 w24 w25 w26 w27 w28 w29 w30 w31 w32 w33 w34 w35 w36 w37 w38 w39 w40 w41 f45 f46 H.size) (kV_X10_keepNow hE (e1494 hE) rfl rfl ⟨(Nat.le_of_ble_eq_true rfl), (Nat.le_of_ble_eq_true rfl)⟩) [0, 1, 2, 3] rfl (by decide) rfl hl.1 rfl (lv_room (Nat.le_of_ble_eq_true rfl)) dX10_sets_30 ⟨(Nat.le_of_ble_eq_true rfl), (Nat.le_of_ble_eq_true rfl)⟩) hP hD hS hA [0, 1, 2, 3] [] rfl rfl (by decide) (by decide) (fun u2 H locs hP hD hS => ?_)
  have hP : va_P g.1 vwCl [(q42, .inl (g.2 0, 497, .inl f45)), (q44, .inl (g.2 0, 3976, .inl (cpF 497 (cpF 497 f45 f46) f46))), (q43, .inl (g.2 0, 497, .inl (cpF 497 f45 f46))), (q1, .inr (12, [.ref q42, w6, .ref q43, w8, .ref q44, .int 1, .int 0, w12, w13, w14, w15, w16, w17, w18, w19, w20, w21, w22, w23, w24, w25, w26, w27, w28, w29, w30, w31, w32, w33, w34, w35, w36, w37, w38, w39, w40, w41]))] H := hP
  have hD : va_D A [(q42, .inl (g.2 0, 497, .inl f45)), (q44, .inl (g.2 0, 3976, .inl (cpF 497 (cpF 497 f45 f46) f46))), (q43, .inl (g.2 0, 497, .inl (cpF 497 f45 f46))), (q1, .inr (12, [.ref q42, w6, .ref q43, w8, .ref q44, .int 1, .int 0, w12, w13, w14, w15, w16, w17, w18, w19, w20, w21, w22, w23, w24, w25, w26, w27, w28, w29, w30, w31, w32, w33, w34, w35, w36, w37, w38, w39, w40, w41]))] := hD
  refine lv_aload_n hx hb dX10_sets_33 rfl (lv_at hl 0 rfl) ?_
  refine gf_RX10_9 hx hb hown hE hP 3 rfl rfl dX10_sets_34 ?_
  refine lv_iload_n hx hb dX10_sets_37 rfl (lv_at hl 1 rfl) ?_
  refine x_iald (v := 5) hx hb hE hP 0 rfl 488 (x_in (by decide)) (by decide) hf47 dX10_sets_38 ?_
  refine lv_istore (lv' := [(6, .int 5), (0, .ref q1), (1, .int 488), (2, .int x2), (3, .int 0), (4, .int 9), (5, .int 2)]) hx hb dX10_sets_39 hl (by decide) rfl (fun ls hl => ?_)
  refine lv_aload_n hx hb dX10_sets_41 rfl (lv_at hl 1 rfl) ?_
  refine gf_RX10_9 hx hb hown hE hP 3 rfl rfl dX10_sets_42 ?_
  refine lv_iload_n hx hb dX10_sets_45 rfl (lv_at hl 2 rfl) ?_
  refine lv_iload_n hx hb dX10_sets_46 rfl (lv_at hl 3 rfl) ?_
  refine x_iast (ws' := [(q42, .inl (g.2 0, 497, .inl (upd f45 488 x2))), (q44, .inl (g.2 0, 3976, .inl (cpF 497 (cpF 497 f45 f46) f46))), (q43, .inl (g.2 0, 497, .inl (cpF 497 f45 f46))), (q1, .inr (12, [.ref q42, w6, .ref q43, w8, .ref q44, .int 1, .int 0, w12, w13, w14, w15, w16, w17, w18, w19, w20, w21, w22, w23, w24, w25, w26, w27, w28, w29, w30, w31, w32, w33, w34, w35, w36, w37, w38, w39, w40, w41]))]) hx hb hE hP hD hS 0 rfl 488 (x_in (by decide)) (by decide) dX10_sets_47 rfl (fun H locs hP hD hS => ?_)
  refine lv_iload hx hb dX10_sets_48 (lv_at hl 0 rfl) ?_
  exact x_zret hx hb hr rfl rfl hlocks hP hD hS hAe hsz (Nat.le_of_ble_eq_true rfl) (Nat.le_of_ble_eq_true rfl) (fun _ => 0) [0, 1, 2, 3] (by decide) rfl dX10_sets_50

set_option maxHeartbeats 4000000 in
set_option maxRecDepth 100000 in
theorem c2135_X10_setPriority (l : Launch) (g : gG) (q1 q42 q43 q44 : Nat) (x2 : Int32) (w4 w6 w9 w10 w11 w12 w13 w14 w15 w16 w17 w18 w19 w20 w21 w22 w23 w24 w25 w26 w27 w28 w29 w30 w31 w32 w33 w34 w35 w36 w37 w38 w39 : Value) (f45 : Nat → Int32) (f46 : Nat → Int32) (hf47 : f45 488 = 5) (h40 : (0 : Int32) ≤ x2) (h41 : x2 ≤ 9) (sz : Nat) : Met l yX10_setPriority [Cond.code yX10_setPriority cX10_setPriority 3 (some .int)] ({ frames := 3, cells := 0, slots := 0, locals := 67 } : Room) (va_Pc [.ref q1, .int 2, .int x2] (PX g sz [(q44, .inl (g.2 0, 3976, .inl f46)), (q43, .inl (g.2 0, 497, .inl f46)), (q42, .inl (g.2 0, 497, .inl f45)), (q1, .inr (12, [.ref q42, w4, .ref q43, w6, .ref q44, .int 0, w9, w10, w11, w12, w13, w14, w15, w16, w17, w18, w19, w20, w21, w22, w23, w24, w25, w26, w27, w28, w29, w30, w31, w32, w33, w34, w35, w36, w37, w38, w39]))])) (QI g [(q44, .inl (g.2 0, 3976, .inl f46)), (q43, .inl (g.2 0, 497, .inl f46)), (q42, .inl (g.2 0, 497, .inl f45)), (q1, .inr (12, [.ref q42, w4, .ref q43, w6, .ref q44, .int 0, w9, w10, w11, w12, w13, w14, w15, w16, w17, w18, w19, w20, w21, w22, w23, w24, w25, w26, w27, w28, w29, w30, w31, w32, w33, w34, w35, w36, w37, w38, w39]))] sz 5 (fun _ => [(q1, .inr (12, [.ref q42, w4, .ref q43, w6, .ref q44, .int 1, .int 0, w10, w11, w12, w13, w14, w15, w16, w17, w18, w19, w20, w21, w22, w23, w24, w25, w26, w27, w28, w29, w30, w31, w32, w33, w34, w35, w36, w37, w38, w39]))])) 0 0 (va_A [(q44, .inl (g.2 0, 3976, .inl f46)), (q43, .inl (g.2 0, 497, .inl f46)), (q42, .inl (g.2 0, 497, .inl f45)), (q1, .inr (12, [.ref q42, w4, .ref q43, w6, .ref q44, .int 0, w9, w10, w11, w12, w13, w14, w15, w16, w17, w18, w19, w20, w21, w22, w23, w24, w25, w26, w27, w28, w29, w30, w31, w32, w33, w34, w35, w36, w37, w38, w39]))] sz) := by
  refine ofN (by decide) (Nat.le_of_ble_eq_true rfl) rfl ?_
  intro p e s m args below meth c A ls hAe hsz hx hb hml hr hlocks hin hown hE hP hD hA hS hl
  have hown : s.vm.findClass RX10 = some m.cls := hown
  refine lv_aload_n hx hb dX10_setPriority_0 rfl (lv_at hl 0 rfl) ?_
  refine lv_iconst (v := 1) hx hb dX10_setPriority_1 (by decide) ?_
  refine pf_RX10_86 (ws' := [(q44, .inl (g.2 0, 3976, .inl f46)), (q43, .inl (g.2 0, 497, .inl f46)), (q42, .inl (g.2 0, 497, .inl f45)), (q1, .inr (12, [.ref q42, w4, .ref q43, w6, .ref q44, .int 0, .int 1, w10, w11, w12, w13, w14, w15, w16, w17, w18, w19, w20, w21, w22, w23, w24, w25, w26, w27, w28, w29, w30, w31, w32, w33, w34, w35, w36, w37, w38, w39]))]) hx hb hown hE hP hD hS 3 rfl rfl rfl (Nat.le_of_ble_eq_true rfl) dX10_setPriority_2 rfl (fun H locs hP hD hS => ?_)
  refine lv_iload_n hx hb dX10_setPriority_5 rfl (lv_at hl 1 rfl) ?_
  refine g0_i (rS (rest := []) hx hb hml hown hE hP hD (c1857_X10_isInstrument l g 2 (by decide) (by decide) H.size) (kS_X10_isInstrument hE (e1645 hE) rfl rfl ⟨(Nat.le_of_ble_eq_true rfl), (Nat.le_of_ble_eq_true rfl)⟩) [] rfl (by decide) rfl hl.1 rfl (lv_room (Nat.le_of_ble_eq_true rfl)) dX10_setPriority_6 ⟨(Nat.le_of_ble_eq_true rfl), (Nat.le_of_ble_eq_true rfl)⟩) hP hD hS hA (fun u9 H locs hP hS => ?_)
  refine lv_if_eq (tgt := 33) hx hb dX10_setPriority_9 (by decide) (fun h => absurd h (by decide)) (fun _ => ?_)
  refine lv_aload_n hx hb dX10_setPriority_12 rfl (lv_at hl 0 rfl) ?_
  refine lv_sipush (v := 474) hx hb dX10_setPriority_13 (by decide) ?_
  refine lv_iconst (v := 5) hx hb dX10_setPriority_16 (by decide) ?_
  refine lv_iload_n hx hb dX10_setPriority_17 rfl (lv_at hl 1 rfl) ?_
  refine x_imul (v := 10) hx hb dX10_setPriority_18 (by decide) ?_
  refine x_iadd (v := 484) hx hb dX10_setPriority_19 (by decide) ?_
  refine lv_iconst (v := 4) hx hb dX10_setPriority_20 (by decide) ?_
  refine x_iadd (v := 488) hx hb dX10_setPriority_21 (by decide) ?_
  refine lv_iload_n hx hb dX10_setPriority_22 rfl (lv_at hl 2 rfl) ?_
  refine lv_iconst (v := 0) hx hb dX10_setPriority_23 (by decide) ?_
  refine lv_bipush (v := 9) hx hb dX10_setPriority_24 (by decide) ?_
  refine lv_iconst (v := 2) hx hb dX10_setPriority_26 (by decide) ?_
  refine g_i (wr := []) (rV (rest := []) hx hb hml hown hE hP hD 3 rfl rfl (c2134_X10_sets l g q1 q42 q43 q44 x2 w4 w6 (.int 1) w10 w11 w12 w13 w14 w15 w16 w17 w18 w19 w20 w21 w22 w23 w24 w25 w26 w27 w28 w29 w30 w31 w32 w33 w34 w35 w36 w37 w38 w39 f45 f46 (hf47) h40 h41 H.size) (kV_X10_sets hE (e1628 hE) rfl rfl ⟨(Nat.le_of_ble_eq_true rfl), (Nat.le_of_ble_eq_true rfl)⟩) [0, 1, 2, 3] rfl (by decide) rfl hl.1 rfl (lv_room (Nat.le_of_ble_eq_true rfl)) dX10_setPriority_27 ⟨(Nat.le_of_ble_eq_true rfl), (Nat.le_of_ble_eq_true rfl)⟩) hP hD hS hA [0, 1, 2, 3] [] rfl rfl (by decide) (by decide) (fun u2 H locs hP hD hS => ?_)
  have hP : va_P g.1 vwCl [(q42, .inl (g.2 0, 497, .inl (upd f45 488 x2))), (q44, .inl (g.2 0, 3976, .inl (cpF 497 (cpF 497 f45 f46) f46))), (q43, .inl (g.2 0, 497, .inl (cpF 497 f45 f46))), (q1, .inr (12, [.ref q42, w4, .ref q43, w6, .ref q44, .int 1, .int 0, w10, w11, w12, w13, w14, w15, w16, w17, w18, w19, w20, w21, w22, w23, w24, w25, w26, w27, w28, w29, w30, w31, w32, w33, w34, w35, w36, w37, w38, w39]))] H := hP
  have hD : va_D A [(q42, .inl (g.2 0, 497, .inl (upd f45 488 x2))), (q44, .inl (g.2 0, 3976, .inl (cpF 497 (cpF 497 f45 f46) f46))), (q43, .inl (g.2 0, 497, .inl (cpF 497 f45 f46))), (q1, .inr (12, [.ref q42, w4, .ref q43, w6, .ref q44, .int 1, .int 0, w10, w11, w12, w13, w14, w15, w16, w17, w18, w19, w20, w21, w22, w23, w24, w25, w26, w27, w28, w29, w30, w31, w32, w33, w34, w35, w36, w37, w38, w39]))] := hD
  refine lv_goto (tgt := 34) hx hb dX10_setPriority_30 (by decide) ?_
  exact x_zret hx hb hr rfl rfl hlocks hP hD hS hAe hsz (Nat.le_of_ble_eq_true rfl) (Nat.le_of_ble_eq_true rfl) (fun _ => 0) [3] (by decide) rfl dX10_setPriority_34

set_option maxHeartbeats 4000000 in
set_option maxRecDepth 100000 in
theorem c2136_X6_instrumentNumber (l : Launch) (g : gG) (q1 q9 : Nat) (w2 w3 w4 w6 w7 w8 : Value) (f10 : Nat → Int32) (hf11 : f10 19 = 5) (sz : Nat) : Met l yX6_instrumentNumber [Cond.code yX6_instrumentNumber cX6_instrumentNumber 4 (some .int)] ({ frames := 0, cells := 0, slots := 0, locals := 0 } : Room) (va_Pc [.ref q1, .int 3, .int 4] (PX g sz [(q9, .inl (g.2 0, 20, .inl f10)), (q1, .inr (8, [w2, w3, w4, .ref q9, w6, w7, w8]))])) (QI g [(q9, .inl (g.2 0, 20, .inl f10)), (q1, .inr (8, [w2, w3, w4, .ref q9, w6, w7, w8]))] sz 5 (fun _ => [(q9, .inl (g.2 0, 20, .inl f10)), (q1, .inr (8, [w2, w3, w4, .ref q9, w6, w7, w8]))])) 0 0 (va_A [(q9, .inl (g.2 0, 20, .inl f10)), (q1, .inr (8, [w2, w3, w4, .ref q9, w6, w7, w8]))] sz) := by
  refine ofN (by decide) (Nat.le_of_ble_eq_true rfl) rfl ?_
  intro p e s m args below meth c A ls hAe hsz hx hb hml hr hlocks hin hown hE hP hD hA hS hl
  have hown : s.vm.findClass RX6 = some m.cls := hown
  refine lv_iload_n hx hb dX6_instrumentNumber_0 rfl (lv_at hl 1 rfl) ?_
  refine lv_iconst (v := 5) hx hb dX6_instrumentNumber_1 (by decide) ?_
  refine x_imul (v := 15) hx hb dX6_instrumentNumber_2 (by decide) ?_
  refine lv_iload_n hx hb dX6_instrumentNumber_3 rfl (lv_at hl 2 rfl) ?_
  refine x_iadd (v := 19) hx hb dX6_instrumentNumber_4 (by decide) ?_
  refine lv_istore_n (lv' := [(3, .int 19), (0, .ref q1), (1, .int 3), (2, .int 4)]) hx hb dX6_instrumentNumber_5 rfl hl (by decide) rfl (fun ls hl => ?_)
  refine lv_iload_n hx hb dX6_instrumentNumber_6 rfl (lv_at hl 0 rfl) ?_
  refine lv_if_lt (tgt := 28) hx hb dX6_instrumentNumber_7 (by decide) (fun h => absurd h (by decide)) (fun _ => ?_)
  refine lv_iload_n hx hb dX6_instrumentNumber_10 rfl (lv_at hl 0 rfl) ?_
  refine lv_aload_n hx hb dX6_instrumentNumber_11 rfl (lv_at hl 1 rfl) ?_
  refine gf_RX6_29 hx hb hown hE hP 1 rfl rfl dX6_instrumentNumber_12 ?_
  refine x_aleni (v := 20) hx hb hE hP 0 rfl rfl dX6_instrumentNumber_15 ?_
  refine lv_icmp_ge (tgt := 28) hx hb dX6_instrumentNumber_16 (by decide) (fun h => absurd h (by decide)) (fun _ => ?_)
  refine lv_aload_n hx hb dX6_instrumentNumber_19 rfl (lv_at hl 1 rfl) ?_
  refine gf_RX6_29 hx hb hown hE hP 1 rfl rfl dX6_instrumentNumber_20 ?_
  refine lv_iload_n hx hb dX6_instrumentNumber_23 rfl (lv_at hl 0 rfl) ?_
  refine x_iald (v := 5) hx hb hE hP 0 rfl 19 (x_in (by decide)) (by decide) hf11 dX6_instrumentNumber_24 ?_
  refine lv_goto (tgt := 29) hx hb dX6_instrumentNumber_25 (by decide) ?_
  exact x_zret hx hb hr rfl rfl hlocks hP hD hS hAe hsz (Nat.le_of_ble_eq_true rfl) (Nat.le_of_ble_eq_true rfl) (fun _ => 0) [0, 1] (by decide) rfl dX6_instrumentNumber_29

set_option maxHeartbeats 4000000 in
set_option maxRecDepth 100000 in
theorem c2137_X9_putAt (l : Launch) (g : gG) (q1 : Nat) (x2 : Int32) (f3 : Nat → Int32) (sz : Nat) : Met l yX9_putAt [Cond.code yX9_putAt cX9_putAt 3 none] ({ frames := 0, cells := 0, slots := 0, locals := 0 } : Room) (va_Pc [.ref q1, .int 19, .int x2] (PX g sz [(q1, .inl (g.2 0, 20, .inl f3))])) (QV g [(q1, .inl (g.2 0, 20, .inl f3))] sz (fun _ => [(q1, .inl (g.2 0, 20, .inl (upd f3 19 x2)))])) 0 0 (va_A [(q1, .inl (g.2 0, 20, .inl f3))] sz) := by
  refine ofN (by decide) (Nat.le_of_ble_eq_true rfl) rfl ?_
  intro p e s m args below meth c A ls hAe hsz hx hb hml hr hlocks hin hown hE hP hD hA hS hl
  have hown : s.vm.findClass RX9 = some m.cls := hown
  refine lv_iload_n hx hb dX9_putAt_0 rfl (lv_at hl 1 rfl) ?_
  refine lv_if_lt (tgt := 14) hx hb dX9_putAt_1 (by decide) (fun h => absurd h (by decide)) (fun _ => ?_)
  refine lv_iload_n hx hb dX9_putAt_4 rfl (lv_at hl 1 rfl) ?_
  refine lv_aload_n hx hb dX9_putAt_5 rfl (lv_at hl 0 rfl) ?_
  refine x_aleni (v := 20) hx hb hE hP 0 rfl rfl dX9_putAt_6 ?_
  refine lv_icmp_ge (tgt := 14) hx hb dX9_putAt_7 (by decide) (fun h => absurd h (by decide)) (fun _ => ?_)
  refine lv_aload_n hx hb dX9_putAt_10 rfl (lv_at hl 0 rfl) ?_
  refine lv_iload_n hx hb dX9_putAt_11 rfl (lv_at hl 1 rfl) ?_
  refine lv_iload_n hx hb dX9_putAt_12 rfl (lv_at hl 2 rfl) ?_
  refine x_iast (ws' := [(q1, .inl (g.2 0, 20, .inl (upd f3 19 x2)))]) hx hb hE hP hD hS 0 rfl 19 (x_in (by decide)) (by decide) dX9_putAt_13 rfl (fun H locs hP hD hS => ?_)
  exact x_vret hx hb hr hlocks hP hD hS hAe hsz (Nat.le_of_ble_eq_true rfl) (Nat.le_of_ble_eq_true rfl) (fun _ => 0) [0] (by decide) rfl dX9_putAt_14

set_option maxHeartbeats 4000000 in
set_option maxRecDepth 100000 in
theorem c2138_X6_putInstrumentNumber (l : Launch) (g : gG) (q1 q10 : Nat) (x2 : Int32) (w3 w4 w5 w7 w8 w9 : Value) (f11 : Nat → Int32) (sz : Nat) : Met l yX6_putInstrumentNumber [Cond.code yX6_putInstrumentNumber cX6_putInstrumentNumber 4 none] ({ frames := 1, cells := 0, slots := 0, locals := 22 } : Room) (va_Pc [.ref q1, .int 3, .int 4, .int x2] (PX g sz [(q10, .inl (g.2 0, 20, .inl f11)), (q1, .inr (8, [w3, w4, w5, .ref q10, w7, w8, w9]))])) (QV g [(q10, .inl (g.2 0, 20, .inl f11)), (q1, .inr (8, [w3, w4, w5, .ref q10, w7, w8, w9]))] sz (fun _ => [(q1, .inr (8, [w3, w4, w5, .ref q10, w7, w8, w9])), (q10, .inl (g.2 0, 20, .inl (upd f11 19 x2)))])) 0 0 (va_A [(q10, .inl (g.2 0, 20, .inl f11)), (q1, .inr (8, [w3, w4, w5, .ref q10, w7, w8, w9]))] sz) := by
  refine ofN (by decide) (Nat.le_of_ble_eq_true rfl) rfl ?_
  intro p e s m args below meth c A ls hAe hsz hx hb hml hr hlocks hin hown hE hP hD hA hS hl
  have hown : s.vm.findClass RX6 = some m.cls := hown
  refine lv_aload_n hx hb dX6_putInstrumentNumber_0 rfl (lv_at hl 0 rfl) ?_
  refine gf_RX6_29 hx hb hown hE hP 1 rfl rfl dX6_putInstrumentNumber_1 ?_
  refine lv_iload_n hx hb dX6_putInstrumentNumber_4 rfl (lv_at hl 1 rfl) ?_
  refine lv_iconst (v := 5) hx hb dX6_putInstrumentNumber_5 (by decide) ?_
  refine x_imul (v := 15) hx hb dX6_putInstrumentNumber_6 (by decide) ?_
  refine lv_iload_n hx hb dX6_putInstrumentNumber_7 rfl (lv_at hl 2 rfl) ?_
  refine x_iadd (v := 19) hx hb dX6_putInstrumentNumber_8 (by decide) ?_
  refine lv_iload_n hx hb dX6_putInstrumentNumber_9 rfl (lv_at hl 3 rfl) ?_
  refine g_v (wr := [(q1, .inr (8, [w3, w4, w5, .ref q10, w7, w8, w9]))]) (rSN (rest := []) hx hb hml hown hE hP hD (c2137_X9_putAt l g q10 x2 f11 s.heap.size) (kSN_X9_putAt hE (e107 hE) rfl rfl ⟨(Nat.le_of_ble_eq_true rfl), (Nat.le_of_ble_eq_true rfl)⟩) [0] rfl (by decide) rfl hl.1 rfl (lv_room (Nat.le_of_ble_eq_true rfl)) dX6_putInstrumentNumber_10 ⟨(Nat.le_of_ble_eq_true rfl), (Nat.le_of_ble_eq_true rfl)⟩) hP hD hS hA [0] [1] rfl rfl (by decide) (by decide) (fun u1 H locs hP hD hS => ?_)
  have hP : va_P g.1 vwCl [(q1, .inr (8, [w3, w4, w5, .ref q10, w7, w8, w9])), (q10, .inl (g.2 0, 20, .inl (upd f11 19 x2)))] H := hP
  have hD : va_D A [(q1, .inr (8, [w3, w4, w5, .ref q10, w7, w8, w9])), (q10, .inl (g.2 0, 20, .inl (upd f11 19 x2)))] := hD
  exact x_vret hx hb hr hlocks hP hD hS hAe hsz (Nat.le_of_ble_eq_true rfl) (Nat.le_of_ble_eq_true rfl) (fun _ => 0) [0, 1] (by decide) rfl dX6_putInstrumentNumber_13

set_option maxHeartbeats 4000000 in
set_option maxRecDepth 100000 in
theorem c2139_X9_setPriority (l : Launch) (g : gG) (q1 q16 q20 q23 q25 q33 q34 q35 q36 q44 q45 q46 q47 q50 q51 q54 q55 q62 q63 q68 q69 : Nat) (x2 : Int32) (w6 w7 w8 w9 w10 w11 w12 w13 w14 w15 w30 w31 w32 w66 w67 : Value) (f21 : Nat → Option Nat) (f56 : Nat → Int32) (f57 : Nat → Int32) (f70 : Nat → Int32) (f71 : Nat → Int32) (hf22 : f21 1 = some q23) (hf24 : f21 0 = some q25) (hf72 : f71 19 = 5) (h3 : (0 : Int32) ≤ x2) (h4 : x2 ≤ 9) (sz : Nat) : Met l yX9_setPriority [Cond.code yX9_setPriority cX9_setPriority 5 (some .int)] ({ frames := 5, cells := 0, slots := 0, locals := 148 } : Room) (va_Pc [.ref q1, .int 3, .int x2] (PX g sz [(q36, .inl (g.2 0, 20, .inl f71)), (q47, .inl (g.2 0, 20, .inl f71)), (q35, .inl (g.2 0, 60, .inl f56)), (q46, .inl (g.2 0, 60, .inl f56)), (q69, .inl (g.2 0, 10, .inl f70)), (q63, .inl (g.2 0, 10, .inl f70)), (q68, .inl (g.2 0, 10, .inl f56)), (q62, .inl (g.2 0, 10, .inl f56)), (q34, .inr (9, [.ref q68, .ref q69, w66, w67])), (q45, .inr (9, [.ref q62, .ref q63, .int 1, .int 0])), (q55, .inl (g.2 0, 40, .inl f57)), (q51, .inl (g.2 0, 40, .inl f57)), (q54, .inl (g.2 0, 384, .inl f56)), (q50, .inl (g.2 0, 384, .inl f56)), (q33, .inr (5, [.ref q54, .ref q55])), (q44, .inr (5, [.ref q50, .ref q51])), (q25, .inr (8, [.ref q44, .ref q45, .ref q46, .ref q47, .int 0, .int 4, .int 0])), (q23, .inr (8, [.ref q33, .ref q34, .ref q35, .ref q36, w30, w31, w32])), (q20, .inl (g.2 3, 10, .inr (.inr (.inr (.inr f21))))), (q16, .inr (10, [.ref q20, .int 0, .int 0])), (q1, .inr (11, [.ref q16, w6, w7, w8, w9, w10, w11, w12, w13, w14, w15]))])) (QI g [(q36, .inl (g.2 0, 20, .inl f71)), (q47, .inl (g.2 0, 20, .inl f71)), (q35, .inl (g.2 0, 60, .inl f56)), (q46, .inl (g.2 0, 60, .inl f56)), (q69, .inl (g.2 0, 10, .inl f70)), (q63, .inl (g.2 0, 10, .inl f70)), (q68, .inl (g.2 0, 10, .inl f56)), (q62, .inl (g.2 0, 10, .inl f56)), (q34, .inr (9, [.ref q68, .ref q69, w66, w67])), (q45, .inr (9, [.ref q62, .ref q63, .int 1, .int 0])), (q55, .inl (g.2 0, 40, .inl f57)), (q51, .inl (g.2 0, 40, .inl f57)), (q54, .inl (g.2 0, 384, .inl f56)), (q50, .inl (g.2 0, 384, .inl f56)), (q33, .inr (5, [.ref q54, .ref q55])), (q44, .inr (5, [.ref q50, .ref q51])), (q25, .inr (8, [.ref q44, .ref q45, .ref q46, .ref q47, .int 0, .int 4, .int 0])), (q23, .inr (8, [.ref q33, .ref q34, .ref q35, .ref q36, w30, w31, w32])), (q20, .inl (g.2 3, 10, .inr (.inr (.inr (.inr f21))))), (q16, .inr (10, [.ref q20, .int 0, .int 0])), (q1, .inr (11, [.ref q16, w6, w7, w8, w9, w10, w11, w12, w13, w14, w15]))] sz 5 (fun _ => [(q20, .inl (g.2 3, 10, .inr (.inr (.inr (.inr f21))))), (q25, .inr (8, [.ref q44, .ref q45, .ref q46, .ref q47, .int 0, .int 4, .int 0])), (q33, .inr (5, [.ref q54, .ref q55])), (q44, .inr (5, [.ref q50, .ref q51])), (q54, .inl (g.2 0, 384, .inl f56)), (q50, .inl (g.2 0, 384, .inl f56)), (q55, .inl (g.2 0, 40, .inl f57)), (q51, .inl (g.2 0, 40, .inl f57)), (q34, .inr (9, [.ref q68, .ref q69, .int 1, .int 0])), (q45, .inr (9, [.ref q62, .ref q63, .int 1, .int 0])), (q68, .inl (g.2 0, 10, .inl f56)), (q62, .inl (g.2 0, 10, .inl f56)), (q69, .inl (g.2 0, 10, .inl f70)), (q63, .inl (g.2 0, 10, .inl f70)), (q35, .inl (g.2 0, 60, .inl f56)), (q46, .inl (g.2 0, 60, .inl f56)), (q47, .inl (g.2 0, 20, .inl f71)), (q23, .inr (8, [.ref q33, .ref q34, .ref q35, .ref q36, .int 0, .int 4, .int 0])), (q36, .inl (g.2 0, 20, .inl (upd f71 19 x2))), (q16, .inr (10, [.ref q20, .int 1, .int 1])), (q1, .inr (11, [.ref q16, w6, w7, w8, w9, w10, w11, w12, .int 0, .int 0, w15]))])) 0 0 (va_A [(q36, .inl (g.2 0, 20, .inl f71)), (q47, .inl (g.2 0, 20, .inl f71)), (q35, .inl (g.2 0, 60, .inl f56)), (q46, .inl (g.2 0, 60, .inl f56)), (q69, .inl (g.2 0, 10, .inl f70)), (q63, .inl (g.2 0, 10, .inl f70)), (q68, .inl (g.2 0, 10, .inl f56)), (q62, .inl (g.2 0, 10, .inl f56)), (q34, .inr (9, [.ref q68, .ref q69, w66, w67])), (q45, .inr (9, [.ref q62, .ref q63, .int 1, .int 0])), (q55, .inl (g.2 0, 40, .inl f57)), (q51, .inl (g.2 0, 40, .inl f57)), (q54, .inl (g.2 0, 384, .inl f56)), (q50, .inl (g.2 0, 384, .inl f56)), (q33, .inr (5, [.ref q54, .ref q55])), (q44, .inr (5, [.ref q50, .ref q51])), (q25, .inr (8, [.ref q44, .ref q45, .ref q46, .ref q47, .int 0, .int 4, .int 0])), (q23, .inr (8, [.ref q33, .ref q34, .ref q35, .ref q36, w30, w31, w32])), (q20, .inl (g.2 3, 10, .inr (.inr (.inr (.inr f21))))), (q16, .inr (10, [.ref q20, .int 0, .int 0])), (q1, .inr (11, [.ref q16, w6, w7, w8, w9, w10, w11, w12, w13, w14, w15]))] sz) := by
  refine ofN (by decide) (Nat.le_of_ble_eq_true rfl) rfl ?_
  intro p e s m args below meth c A ls hAe hsz hx hb hml hr hlocks hin hown hE hP hD hA hS hl
  have hown : s.vm.findClass RX9 = some m.cls := hown
  refine lv_iload_n hx hb dX9_setPriority_0 rfl (lv_at hl 1 rfl) ?_
  refine g0_v (rS (rest := []) hx hb hml hown hE hP hD (c1854_X9_requireInstrument l g 3 (by decide) (by decide) s.heap.size) (kS_X9_requireInstrument hE (e991 hE) rfl rfl ⟨(Nat.le_of_ble_eq_true rfl), (Nat.le_of_ble_eq_true rfl)⟩) [] rfl (by decide) rfl hl.1 rfl (lv_room (Nat.le_of_ble_eq_true rfl)) dX9_setPriority_1 ⟨(Nat.le_of_ble_eq_true rfl), (Nat.le_of_ble_eq_true rfl)⟩) hP hD hS hA (fun u9 H locs hP hS => ?_)
  refine lv_iload_n hx hb dX9_setPriority_4 rfl (lv_at hl 2 rfl) ?_
  refine lv_iconst (v := 0) hx hb dX9_setPriority_5 (by decide) ?_
  refine lv_bipush (v := 9) hx hb dX9_setPriority_6 (by decide) ?_
  refine g0_v (rS (rest := []) hx hb hml hown hE hP hD (c2113_X9_requireRange l g x2 h3 h4 H.size) (kS_X9_requireRange hE (e636 hE) rfl rfl ⟨(Nat.le_of_ble_eq_true rfl), (Nat.le_of_ble_eq_true rfl)⟩) [] rfl (by decide) rfl hl.1 rfl (lv_room (Nat.le_of_ble_eq_true rfl)) dX9_setPriority_8 ⟨(Nat.le_of_ble_eq_true rfl), (Nat.le_of_ble_eq_true rfl)⟩) hP hD hS hA (fun u9 H locs hP hS => ?_)
  refine lv_aload_n hx hb dX9_setPriority_11 rfl (lv_at hl 0 rfl) ?_
  refine gf_RX9_12 hx hb hown hE hP 20 rfl rfl dX9_setPriority_12 ?_
  refine g_r (wr := [(q1, .inr (11, [.ref q16, w6, w7, w8, w9, w10, w11, w12, w13, w14, w15]))]) (rV (rest := []) hx hb hml hown hE hP hD 19 rfl rfl (c127_X8_draft l g q16 q20 q23 q25 q33 q44 q50 q54 q51 q55 q34 q45 q62 q68 q63 q69 q46 q35 q47 q36 (.int 0) w30 w31 w32 w66 w67 f21 f56 f57 f70 f71 (hf22) (hf24) H.size) (kV_X8_draft hE (e659 hE) rfl rfl ⟨(Nat.le_of_ble_eq_true rfl), (Nat.le_of_ble_eq_true rfl)⟩) [0, 1, 2, 3, 4, 5, 6, 7, 8, 9, 10, 11, 12, 13, 14, 15, 16, 17, 18, 19] rfl (by decide) rfl hl.1 rfl (lv_room (Nat.le_of_ble_eq_true rfl)) dX9_setPriority_15 ⟨(Nat.le_of_ble_eq_true rfl), (Nat.le_of_ble_eq_true rfl)⟩) hP hD hS hA [0, 1, 2, 3, 4, 5, 6, 7, 8, 9, 10, 11, 12, 13, 14, 15, 16, 17, 18, 19] [20] rfl rfl (by decide) (by decide) (fun u3 H locs hP hD hS => ?_)
  have hP : va_P g.1 vwCl [(q1, .inr (11, [.ref q16, w6, w7, w8, w9, w10, w11, w12, w13, w14, w15])), (q20, .inl (g.2 3, 10, .inr (.inr (.inr (.inr f21))))), (q16, .inr (10, [.ref q20, .int 0, .int 0])), (q25, .inr (8, [.ref q44, .ref q45, .ref q46, .ref q47, .int 0, .int 4, .int 0])), (q23, .inr (8, [.ref q33, .ref q34, .ref q35, .ref q36, .int 0, .int 4, .int 0])), (q33, .inr (5, [.ref q54, .ref q55])), (q44, .inr (5, [.ref q50, .ref q51])), (q54, .inl (g.2 0, 384, .inl f56)), (q50, .inl (g.2 0, 384, .inl f56)), (q55, .inl (g.2 0, 40, .inl f57)), (q51, .inl (g.2 0, 40, .inl f57)), (q34, .inr (9, [.ref q68, .ref q69, .int 1, .int 0])), (q45, .inr (9, [.ref q62, .ref q63, .int 1, .int 0])), (q68, .inl (g.2 0, 10, .inl f56)), (q62, .inl (g.2 0, 10, .inl f56)), (q69, .inl (g.2 0, 10, .inl f70)), (q63, .inl (g.2 0, 10, .inl f70)), (q35, .inl (g.2 0, 60, .inl f56)), (q46, .inl (g.2 0, 60, .inl f56)), (q36, .inl (g.2 0, 20, .inl f71)), (q47, .inl (g.2 0, 20, .inl f71))] H := hP
  have hD : va_D A [(q1, .inr (11, [.ref q16, w6, w7, w8, w9, w10, w11, w12, w13, w14, w15])), (q20, .inl (g.2 3, 10, .inr (.inr (.inr (.inr f21))))), (q16, .inr (10, [.ref q20, .int 0, .int 0])), (q25, .inr (8, [.ref q44, .ref q45, .ref q46, .ref q47, .int 0, .int 4, .int 0])), (q23, .inr (8, [.ref q33, .ref q34, .ref q35, .ref q36, .int 0, .int 4, .int 0])), (q33, .inr (5, [.ref q54, .ref q55])), (q44, .inr (5, [.ref q50, .ref q51])), (q54, .inl (g.2 0, 384, .inl f56)), (q50, .inl (g.2 0, 384, .inl f56)), (q55, .inl (g.2 0, 40, .inl f57)), (q51, .inl (g.2 0, 40, .inl f57)), (q34, .inr (9, [.ref q68, .ref q69, .int 1, .int 0])), (q45, .inr (9, [.ref q62, .ref q63, .int 1, .int 0])), (q68, .inl (g.2 0, 10, .inl f56)), (q62, .inl (g.2 0, 10, .inl f56)), (q69, .inl (g.2 0, 10, .inl f70)), (q63, .inl (g.2 0, 10, .inl f70)), (q35, .inl (g.2 0, 60, .inl f56)), (q46, .inl (g.2 0, 60, .inl f56)), (q36, .inl (g.2 0, 20, .inl f71)), (q47, .inl (g.2 0, 20, .inl f71))] := hD
  refine lv_astore_n (lv' := [(3, .ref q23), (0, .ref q1), (1, .int 3), (2, .int x2)]) hx hb dX9_setPriority_18 rfl hl (by decide) rfl (fun ls hl => ?_)
  refine lv_aload_n hx hb dX9_setPriority_19 rfl (lv_at hl 0 rfl) ?_
  refine lv_iload_n hx hb dX9_setPriority_20 rfl (lv_at hl 2 rfl) ?_
  refine lv_iconst (v := 4) hx hb dX9_setPriority_21 (by decide) ?_
  refine g_i (wr := [(q1, .inr (11, [.ref q16, w6, w7, w8, w9, w10, w11, w12, w13, w14, w15])), (q20, .inl (g.2 3, 10, .inr (.inr (.inr (.inr f21))))), (q16, .inr (10, [.ref q20, .int 0, .int 0])), (q25, .inr (8, [.ref q44, .ref q45, .ref q46, .ref q47, .int 0, .int 4, .int 0])), (q33, .inr (5, [.ref q54, .ref q55])), (q44, .inr (5, [.ref q50, .ref q51])), (q54, .inl (g.2 0, 384, .inl f56)), (q50, .inl (g.2 0, 384, .inl f56)), (q55, .inl (g.2 0, 40, .inl f57)), (q51, .inl (g.2 0, 40, .inl f57)), (q34, .inr (9, [.ref q68, .ref q69, .int 1, .int 0])), (q45, .inr (9, [.ref q62, .ref q63, .int 1, .int 0])), (q68, .inl (g.2 0, 10, .inl f56)), (q62, .inl (g.2 0, 10, .inl f56)), (q69, .inl (g.2 0, 10, .inl f70)), (q63, .inl (g.2 0, 10, .inl f70)), (q35, .inl (g.2 0, 60, .inl f56)), (q46, .inl (g.2 0, 60, .inl f56)), (q47, .inl (g.2 0, 20, .inl f71))]) (rV (rest := []) hx hb hml hown hE hP hD 4 rfl rfl (c2136_X6_instrumentNumber l g q23 q36 (.ref q33) (.ref q34) (.ref q35) (.int 0) (.int 4) (.int 0) f71 (hf72) H.size) (kV_X6_instrumentNumber hE (e1010 hE) rfl rfl ⟨(Nat.le_of_ble_eq_true rfl), (Nat.le_of_ble_eq_true rfl)⟩) [19, 4] rfl (by decide) rfl hl.1 rfl (lv_room (Nat.le_of_ble_eq_true rfl)) dX9_setPriority_22 ⟨(Nat.le_of_ble_eq_true rfl), (Nat.le_of_ble_eq_true rfl)⟩) hP hD hS hA [19, 4] [0, 1, 2, 3, 5, 6, 7, 8, 9, 10, 11, 12, 13, 14, 15, 16, 17, 18, 20] rfl rfl (by decide) (by decide) (fun u4 H locs hP hD hS => ?_)
  have hP : va_P g.1 vwCl [(q1, .inr (11, [.ref q16, w6, w7, w8, w9, w10, w11, w12, w13, w14, w15])), (q20, .inl (g.2 3, 10, .inr (.inr (.inr (.inr f21))))), (q16, .inr (10, [.ref q20, .int 0, .int 0])), (q25, .inr (8, [.ref q44, .ref q45, .ref q46, .ref q47, .int 0, .int 4, .int 0])), (q33, .inr (5, [.ref q54, .ref q55])), (q44, .inr (5, [.ref q50, .ref q51])), (q54, .inl (g.2 0, 384, .inl f56)), (q50, .inl (g.2 0, 384, .inl f56)), (q55, .inl (g.2 0, 40, .inl f57)), (q51, .inl (g.2 0, 40, .inl f57)), (q34, .inr (9, [.ref q68, .ref q69, .int 1, .int 0])), (q45, .inr (9, [.ref q62, .ref q63, .int 1, .int 0])), (q68, .inl (g.2 0, 10, .inl f56)), (q62, .inl (g.2 0, 10, .inl f56)), (q69, .inl (g.2 0, 10, .inl f70)), (q63, .inl (g.2 0, 10, .inl f70)), (q35, .inl (g.2 0, 60, .inl f56)), (q46, .inl (g.2 0, 60, .inl f56)), (q47, .inl (g.2 0, 20, .inl f71)), (q36, .inl (g.2 0, 20, .inl f71)), (q23, .inr (8, [.ref q33, .ref q34, .ref q35, .ref q36, .int 0, .int 4, .int 0]))] H := hP
  have hD : va_D A [(q1, .inr (11, [.ref q16, w6, w7, w8, w9, w10, w11, w12, w13, w14, w15])), (q20, .inl (g.2 3, 10, .inr (.inr (.inr (.inr f21))))), (q16, .inr (10, [.ref q20, .int 0, .int 0])), (q25, .inr (8, [.ref q44, .ref q45, .ref q46, .ref q47, .int 0, .int 4, .int 0])), (q33, .inr (5, [.ref q54, .ref q55])), (q44, .inr (5, [.ref q50, .ref q51])), (q54, .inl (g.2 0, 384, .inl f56)), (q50, .inl (g.2 0, 384, .inl f56)), (q55, .inl (g.2 0, 40, .inl f57)), (q51, .inl (g.2 0, 40, .inl f57)), (q34, .inr (9, [.ref q68, .ref q69, .int 1, .int 0])), (q45, .inr (9, [.ref q62, .ref q63, .int 1, .int 0])), (q68, .inl (g.2 0, 10, .inl f56)), (q62, .inl (g.2 0, 10, .inl f56)), (q69, .inl (g.2 0, 10, .inl f70)), (q63, .inl (g.2 0, 10, .inl f70)), (q35, .inl (g.2 0, 60, .inl f56)), (q46, .inl (g.2 0, 60, .inl f56)), (q47, .inl (g.2 0, 20, .inl f71)), (q36, .inl (g.2 0, 20, .inl f71)), (q23, .inr (8, [.ref q33, .ref q34, .ref q35, .ref q36, .int 0, .int 4, .int 0]))] := hD
  refine lv_istore (lv' := [(4, .int 5), (3, .ref q23), (0, .ref q1), (1, .int 3), (2, .int x2)]) hx hb dX9_setPriority_25 hl (by decide) rfl (fun ls hl => ?_)
  refine lv_aload_n hx hb dX9_setPriority_27 rfl (lv_at hl 1 rfl) ?_
  refine lv_iload_n hx hb dX9_setPriority_28 rfl (lv_at hl 3 rfl) ?_
  refine lv_iconst (v := 4) hx hb dX9_setPriority_29 (by decide) ?_
  refine lv_iload_n hx hb dX9_setPriority_30 rfl (lv_at hl 4 rfl) ?_
  refine g_v (wr := [(q1, .inr (11, [.ref q16, w6, w7, w8, w9, w10, w11, w12, w13, w14, w15])), (q20, .inl (g.2 3, 10, .inr (.inr (.inr (.inr f21))))), (q16, .inr (10, [.ref q20, .int 0, .int 0])), (q25, .inr (8, [.ref q44, .ref q45, .ref q46, .ref q47, .int 0, .int 4, .int 0])), (q33, .inr (5, [.ref q54, .ref q55])), (q44, .inr (5, [.ref q50, .ref q51])), (q54, .inl (g.2 0, 384, .inl f56)), (q50, .inl (g.2 0, 384, .inl f56)), (q55, .inl (g.2 0, 40, .inl f57)), (q51, .inl (g.2 0, 40, .inl f57)), (q34, .inr (9, [.ref q68, .ref q69, .int 1, .int 0])), (q45, .inr (9, [.ref q62, .ref q63, .int 1, .int 0])), (q68, .inl (g.2 0, 10, .inl f56)), (q62, .inl (g.2 0, 10, .inl f56)), (q69, .inl (g.2 0, 10, .inl f70)), (q63, .inl (g.2 0, 10, .inl f70)), (q35, .inl (g.2 0, 60, .inl f56)), (q46, .inl (g.2 0, 60, .inl f56)), (q47, .inl (g.2 0, 20, .inl f71))]) (rV (rest := []) hx hb hml hown hE hP hD 20 rfl rfl (c2138_X6_putInstrumentNumber l g q23 q36 x2 (.ref q33) (.ref q34) (.ref q35) (.int 0) (.int 4) (.int 0) f71 H.size) (kV_X6_putInstrumentNumber hE (e1011 hE) rfl rfl ⟨(Nat.le_of_ble_eq_true rfl), (Nat.le_of_ble_eq_true rfl)⟩) [19, 20] rfl (by decide) rfl hl.1 rfl (lv_room (Nat.le_of_ble_eq_true rfl)) dX9_setPriority_31 ⟨(Nat.le_of_ble_eq_true rfl), (Nat.le_of_ble_eq_true rfl)⟩) hP hD hS hA [19, 20] [0, 1, 2, 3, 4, 5, 6, 7, 8, 9, 10, 11, 12, 13, 14, 15, 16, 17, 18] rfl rfl (by decide) (by decide) (fun u5 H locs hP hD hS => ?_)
  have hP : va_P g.1 vwCl [(q1, .inr (11, [.ref q16, w6, w7, w8, w9, w10, w11, w12, w13, w14, w15])), (q20, .inl (g.2 3, 10, .inr (.inr (.inr (.inr f21))))), (q16, .inr (10, [.ref q20, .int 0, .int 0])), (q25, .inr (8, [.ref q44, .ref q45, .ref q46, .ref q47, .int 0, .int 4, .int 0])), (q33, .inr (5, [.ref q54, .ref q55])), (q44, .inr (5, [.ref q50, .ref q51])), (q54, .inl (g.2 0, 384, .inl f56)), (q50, .inl (g.2 0, 384, .inl f56)), (q55, .inl (g.2 0, 40, .inl f57)), (q51, .inl (g.2 0, 40, .inl f57)), (q34, .inr (9, [.ref q68, .ref q69, .int 1, .int 0])), (q45, .inr (9, [.ref q62, .ref q63, .int 1, .int 0])), (q68, .inl (g.2 0, 10, .inl f56)), (q62, .inl (g.2 0, 10, .inl f56)), (q69, .inl (g.2 0, 10, .inl f70)), (q63, .inl (g.2 0, 10, .inl f70)), (q35, .inl (g.2 0, 60, .inl f56)), (q46, .inl (g.2 0, 60, .inl f56)), (q47, .inl (g.2 0, 20, .inl f71)), (q23, .inr (8, [.ref q33, .ref q34, .ref q35, .ref q36, .int 0, .int 4, .int 0])), (q36, .inl (g.2 0, 20, .inl (upd f71 19 x2)))] H := hP
  have hD : va_D A [(q1, .inr (11, [.ref q16, w6, w7, w8, w9, w10, w11, w12, w13, w14, w15])), (q20, .inl (g.2 3, 10, .inr (.inr (.inr (.inr f21))))), (q16, .inr (10, [.ref q20, .int 0, .int 0])), (q25, .inr (8, [.ref q44, .ref q45, .ref q46, .ref q47, .int 0, .int 4, .int 0])), (q33, .inr (5, [.ref q54, .ref q55])), (q44, .inr (5, [.ref q50, .ref q51])), (q54, .inl (g.2 0, 384, .inl f56)), (q50, .inl (g.2 0, 384, .inl f56)), (q55, .inl (g.2 0, 40, .inl f57)), (q51, .inl (g.2 0, 40, .inl f57)), (q34, .inr (9, [.ref q68, .ref q69, .int 1, .int 0])), (q45, .inr (9, [.ref q62, .ref q63, .int 1, .int 0])), (q68, .inl (g.2 0, 10, .inl f56)), (q62, .inl (g.2 0, 10, .inl f56)), (q69, .inl (g.2 0, 10, .inl f70)), (q63, .inl (g.2 0, 10, .inl f70)), (q35, .inl (g.2 0, 60, .inl f56)), (q46, .inl (g.2 0, 60, .inl f56)), (q47, .inl (g.2 0, 20, .inl f71)), (q23, .inr (8, [.ref q33, .ref q34, .ref q35, .ref q36, .int 0, .int 4, .int 0])), (q36, .inl (g.2 0, 20, .inl (upd f71 19 x2)))] := hD
  refine lv_aload_n hx hb dX9_setPriority_34 rfl (lv_at hl 2 rfl) ?_
  refine g_v (wr := [(q20, .inl (g.2 3, 10, .inr (.inr (.inr (.inr f21))))), (q25, .inr (8, [.ref q44, .ref q45, .ref q46, .ref q47, .int 0, .int 4, .int 0])), (q33, .inr (5, [.ref q54, .ref q55])), (q44, .inr (5, [.ref q50, .ref q51])), (q54, .inl (g.2 0, 384, .inl f56)), (q50, .inl (g.2 0, 384, .inl f56)), (q55, .inl (g.2 0, 40, .inl f57)), (q51, .inl (g.2 0, 40, .inl f57)), (q34, .inr (9, [.ref q68, .ref q69, .int 1, .int 0])), (q45, .inr (9, [.ref q62, .ref q63, .int 1, .int 0])), (q68, .inl (g.2 0, 10, .inl f56)), (q62, .inl (g.2 0, 10, .inl f56)), (q69, .inl (g.2 0, 10, .inl f70)), (q63, .inl (g.2 0, 10, .inl f70)), (q35, .inl (g.2 0, 60, .inl f56)), (q46, .inl (g.2 0, 60, .inl f56)), (q47, .inl (g.2 0, 20, .inl f71)), (q23, .inr (8, [.ref q33, .ref q34, .ref q35, .ref q36, .int 0, .int 4, .int 0])), (q36, .inl (g.2 0, 20, .inl (upd f71 19 x2)))]) (rV (rest := []) hx hb hml hown hE hP hD 0 rfl rfl (c191_X9_accept l g q1 q16 w6 w7 w8 w9 w10 w11 w12 w13 w14 w15 (.ref q20) H.size) (kV_X9_accept hE (e718 hE) rfl rfl ⟨(Nat.le_of_ble_eq_true rfl), (Nat.le_of_ble_eq_true rfl)⟩) [2, 0] rfl (by decide) rfl hl.1 rfl (lv_room (Nat.le_of_ble_eq_true rfl)) dX9_setPriority_35 ⟨(Nat.le_of_ble_eq_true rfl), (Nat.le_of_ble_eq_true rfl)⟩) hP hD hS hA [2, 0] [1, 3, 4, 5, 6, 7, 8, 9, 10, 11, 12, 13, 14, 15, 16, 17, 18, 19, 20] rfl rfl (by decide) (by decide) (fun u6 H locs hP hD hS => ?_)
  have hP : va_P g.1 vwCl [(q20, .inl (g.2 3, 10, .inr (.inr (.inr (.inr f21))))), (q25, .inr (8, [.ref q44, .ref q45, .ref q46, .ref q47, .int 0, .int 4, .int 0])), (q33, .inr (5, [.ref q54, .ref q55])), (q44, .inr (5, [.ref q50, .ref q51])), (q54, .inl (g.2 0, 384, .inl f56)), (q50, .inl (g.2 0, 384, .inl f56)), (q55, .inl (g.2 0, 40, .inl f57)), (q51, .inl (g.2 0, 40, .inl f57)), (q34, .inr (9, [.ref q68, .ref q69, .int 1, .int 0])), (q45, .inr (9, [.ref q62, .ref q63, .int 1, .int 0])), (q68, .inl (g.2 0, 10, .inl f56)), (q62, .inl (g.2 0, 10, .inl f56)), (q69, .inl (g.2 0, 10, .inl f70)), (q63, .inl (g.2 0, 10, .inl f70)), (q35, .inl (g.2 0, 60, .inl f56)), (q46, .inl (g.2 0, 60, .inl f56)), (q47, .inl (g.2 0, 20, .inl f71)), (q23, .inr (8, [.ref q33, .ref q34, .ref q35, .ref q36, .int 0, .int 4, .int 0])), (q36, .inl (g.2 0, 20, .inl (upd f71 19 x2))), (q16, .inr (10, [.ref q20, .int 1, .int 1])), (q1, .inr (11, [.ref q16, w6, w7, w8, w9, w10, w11, w12, .int 0, .int 0, w15]))] H := hP
  have hD : va_D A [(q20, .inl (g.2 3, 10, .inr (.inr (.inr (.inr f21))))), (q25, .inr (8, [.ref q44, .ref q45, .ref q46, .ref q47, .int 0, .int 4, .int 0])), (q33, .inr (5, [.ref q54, .ref q55])), (q44, .inr (5, [.ref q50, .ref q51])), (q54, .inl (g.2 0, 384, .inl f56)), (q50, .inl (g.2 0, 384, .inl f56)), (q55, .inl (g.2 0, 40, .inl f57)), (q51, .inl (g.2 0, 40, .inl f57)), (q34, .inr (9, [.ref q68, .ref q69, .int 1, .int 0])), (q45, .inr (9, [.ref q62, .ref q63, .int 1, .int 0])), (q68, .inl (g.2 0, 10, .inl f56)), (q62, .inl (g.2 0, 10, .inl f56)), (q69, .inl (g.2 0, 10, .inl f70)), (q63, .inl (g.2 0, 10, .inl f70)), (q35, .inl (g.2 0, 60, .inl f56)), (q46, .inl (g.2 0, 60, .inl f56)), (q47, .inl (g.2 0, 20, .inl f71)), (q23, .inr (8, [.ref q33, .ref q34, .ref q35, .ref q36, .int 0, .int 4, .int 0])), (q36, .inl (g.2 0, 20, .inl (upd f71 19 x2))), (q16, .inr (10, [.ref q20, .int 1, .int 1])), (q1, .inr (11, [.ref q16, w6, w7, w8, w9, w10, w11, w12, .int 0, .int 0, w15]))] := hD
  refine lv_iload hx hb dX9_setPriority_38 (lv_at hl 0 rfl) ?_
  exact x_zret hx hb hr rfl rfl hlocks hP hD hS hAe hsz (Nat.le_of_ble_eq_true rfl) (Nat.le_of_ble_eq_true rfl) (fun _ => 0) [0, 1, 2, 3, 4, 5, 6, 7, 8, 9, 10, 11, 12, 13, 14, 15, 16, 17, 18, 19, 20] (by decide) rfl dX9_setPriority_40

set_option maxHeartbeats 4000000 in
set_option maxRecDepth 100000 in
theorem c2140_L_setPriority (l : Launch) (g : gG) (hlx : l.stackTraces = false) (q1 q3 q17 q21 q24 q26 q34 q35 q36 q37 q45 q46 q47 q48 q51 q52 q55 q56 q63 q64 q69 q70 : Nat) (x2 : Int32) (w7 w8 w9 w10 w11 w12 w13 w14 w15 w16 w31 w32 w33 w67 w68 : Value) (f22 : Nat → Option Nat) (f57 : Nat → Int32) (f58 : Nat → Int32) (f71 : Nat → Int32) (f72 : Nat → Int32) (f74 : Nat → Int64) (hf23 : f22 1 = some q24) (hf25 : f22 0 = some q26) (hf73 : f72 19 = 5) (h4 : (0 : Int32) ≤ x2) (h5 : x2 ≤ 9) (sz : Nat) : Met l yL_setPriority [Cond.codeWith yL_setPriority cL_setPriority 5 (some .int) [(0, 10, 13, 13), (0, 10, 17, 15)]] ({ frames := 6, cells := 0, slots := 0, locals := 172 } : Room) (va_Pc [.ref q1, .int 3, .int x2, .ref q3] (PZ g sz [(q3, .inl (g.2 1, 1, .inr (.inl f74))), (q37, .inl (g.2 0, 20, .inl f72)), (q48, .inl (g.2 0, 20, .inl f72)), (q36, .inl (g.2 0, 60, .inl f57)), (q47, .inl (g.2 0, 60, .inl f57)), (q70, .inl (g.2 0, 10, .inl f71)), (q64, .inl (g.2 0, 10, .inl f71)), (q69, .inl (g.2 0, 10, .inl f57)), (q63, .inl (g.2 0, 10, .inl f57)), (q35, .inr (9, [.ref q69, .ref q70, w67, w68])), (q46, .inr (9, [.ref q63, .ref q64, .int 1, .int 0])), (q56, .inl (g.2 0, 40, .inl f58)), (q52, .inl (g.2 0, 40, .inl f58)), (q55, .inl (g.2 0, 384, .inl f57)), (q51, .inl (g.2 0, 384, .inl f57)), (q34, .inr (5, [.ref q55, .ref q56])), (q45, .inr (5, [.ref q51, .ref q52])), (q26, .inr (8, [.ref q45, .ref q46, .ref q47, .ref q48, .int 0, .int 4, .int 0])), (q24, .inr (8, [.ref q34, .ref q35, .ref q36, .ref q37, w31, w32, w33])), (q21, .inl (g.2 3, 10, .inr (.inr (.inr (.inr f22))))), (q17, .inr (10, [.ref q21, .int 0, .int 0])), (q1, .inr (11, [.ref q17, w7, w8, w9, w10, w11, w12, w13, w14, w15, w16]))])) (QI g [(q3, .inl (g.2 1, 1, .inr (.inl f74))), (q37, .inl (g.2 0, 20, .inl f72)), (q48, .inl (g.2 0, 20, .inl f72)), (q36, .inl (g.2 0, 60, .inl f57)), (q47, .inl (g.2 0, 60, .inl f57)), (q70, .inl (g.2 0, 10, .inl f71)), (q64, .inl (g.2 0, 10, .inl f71)), (q69, .inl (g.2 0, 10, .inl f57)), (q63, .inl (g.2 0, 10, .inl f57)), (q35, .inr (9, [.ref q69, .ref q70, w67, w68])), (q46, .inr (9, [.ref q63, .ref q64, .int 1, .int 0])), (q56, .inl (g.2 0, 40, .inl f58)), (q52, .inl (g.2 0, 40, .inl f58)), (q55, .inl (g.2 0, 384, .inl f57)), (q51, .inl (g.2 0, 384, .inl f57)), (q34, .inr (5, [.ref q55, .ref q56])), (q45, .inr (5, [.ref q51, .ref q52])), (q26, .inr (8, [.ref q45, .ref q46, .ref q47, .ref q48, .int 0, .int 4, .int 0])), (q24, .inr (8, [.ref q34, .ref q35, .ref q36, .ref q37, w31, w32, w33])), (q21, .inl (g.2 3, 10, .inr (.inr (.inr (.inr f22))))), (q17, .inr (10, [.ref q21, .int 0, .int 0])), (q1, .inr (11, [.ref q17, w7, w8, w9, w10, w11, w12, w13, w14, w15, w16]))] sz 0 (fun _ => [(q3, .inl (g.2 1, 1, .inr (.inl (vp_updL f74 0 5))))])) 0 0 (va_A [(q3, .inl (g.2 1, 1, .inr (.inl f74))), (q37, .inl (g.2 0, 20, .inl f72)), (q48, .inl (g.2 0, 20, .inl f72)), (q36, .inl (g.2 0, 60, .inl f57)), (q47, .inl (g.2 0, 60, .inl f57)), (q70, .inl (g.2 0, 10, .inl f71)), (q64, .inl (g.2 0, 10, .inl f71)), (q69, .inl (g.2 0, 10, .inl f57)), (q63, .inl (g.2 0, 10, .inl f57)), (q35, .inr (9, [.ref q69, .ref q70, w67, w68])), (q46, .inr (9, [.ref q63, .ref q64, .int 1, .int 0])), (q56, .inl (g.2 0, 40, .inl f58)), (q52, .inl (g.2 0, 40, .inl f58)), (q55, .inl (g.2 0, 384, .inl f57)), (q51, .inl (g.2 0, 384, .inl f57)), (q34, .inr (5, [.ref q55, .ref q56])), (q45, .inr (5, [.ref q51, .ref q52])), (q26, .inr (8, [.ref q45, .ref q46, .ref q47, .ref q48, .int 0, .int 4, .int 0])), (q24, .inr (8, [.ref q34, .ref q35, .ref q36, .ref q37, w31, w32, w33])), (q21, .inl (g.2 3, 10, .inr (.inr (.inr (.inr f22))))), (q17, .inr (10, [.ref q21, .int 0, .int 0])), (q1, .inr (11, [.ref q17, w7, w8, w9, w10, w11, w12, w13, w14, w15, w16]))] sz) := by
  refine ofH (by decide) (Nat.le_of_ble_eq_true rfl) rfl ?_
  intro p e s m args below meth c A ls hAe hsz hx hb hml hr hlocks hin hown hE hP hD hA hS hl htb hz
  have hown : s.vm.findClass RL = some m.cls := hown
  refine lv_aload_n hx hb dL_setPriority_0 rfl (lv_at hl 3 rfl) ?_
  refine lv_iconst (v := 0) hx hb dL_setPriority_1 (by decide) ?_
  refine lv_aload_n hx hb dL_setPriority_2 rfl (lv_at hl 0 rfl) ?_
  refine lv_iload_n hx hb dL_setPriority_3 rfl (lv_at hl 1 rfl) ?_
  refine lv_iload_n hx hb dL_setPriority_4 rfl (lv_at hl 2 rfl) ?_
  refine g_i (wr := [(q3, .inl (g.2 1, 1, .inr (.inl f74)))]) (rV (rest := [.int 0, .ref q3]) hx hb hml hown hE hP hD 21 rfl rfl (c2139_X9_setPriority l g q1 q17 q21 q24 q26 q34 q35 q36 q37 q45 q46 q47 q48 q51 q52 q55 q56 q63 q64 q69 q70 x2 w7 w8 w9 w10 w11 w12 w13 w14 w15 w16 w31 w32 w33 w67 w68 f22 f57 f58 f71 f72 (hf23) (hf25) (hf73) h4 h5 s.heap.size) (kV_X9_setPriority hE (e1006 hE) rfl rfl ⟨(Nat.le_of_ble_eq_true rfl), (Nat.le_of_ble_eq_true rfl)⟩) [1, 2, 3, 4, 5, 6, 7, 8, 9, 10, 11, 12, 13, 14, 15, 16, 17, 18, 19, 20, 21] rfl (by decide) rfl hl.1 rfl (lv_room (Nat.le_of_ble_eq_true rfl)) dL_setPriority_5 ⟨(Nat.le_of_ble_eq_true rfl), (Nat.le_of_ble_eq_true rfl)⟩) hP hD hS hA [1, 2, 3, 4, 5, 6, 7, 8, 9, 10, 11, 12, 13, 14, 15, 16, 17, 18, 19, 20, 21] [0] rfl rfl (by decide) (by decide) (fun u1 H locs hP hD hS => ?_)
  have hP : va_P g.1 vwCl [(q3, .inl (g.2 1, 1, .inr (.inl f74))), (q21, .inl (g.2 3, 10, .inr (.inr (.inr (.inr f22))))), (q26, .inr (8, [.ref q45, .ref q46, .ref q47, .ref q48, .int 0, .int 4, .int 0])), (q34, .inr (5, [.ref q55, .ref q56])), (q45, .inr (5, [.ref q51, .ref q52])), (q55, .inl (g.2 0, 384, .inl f57)), (q51, .inl (g.2 0, 384, .inl f57)), (q56, .inl (g.2 0, 40, .inl f58)), (q52, .inl (g.2 0, 40, .inl f58)), (q35, .inr (9, [.ref q69, .ref q70, .int 1, .int 0])), (q46, .inr (9, [.ref q63, .ref q64, .int 1, .int 0])), (q69, .inl (g.2 0, 10, .inl f57)), (q63, .inl (g.2 0, 10, .inl f57)), (q70, .inl (g.2 0, 10, .inl f71)), (q64, .inl (g.2 0, 10, .inl f71)), (q36, .inl (g.2 0, 60, .inl f57)), (q47, .inl (g.2 0, 60, .inl f57)), (q48, .inl (g.2 0, 20, .inl f72)), (q24, .inr (8, [.ref q34, .ref q35, .ref q36, .ref q37, .int 0, .int 4, .int 0])), (q37, .inl (g.2 0, 20, .inl (upd f72 19 x2))), (q17, .inr (10, [.ref q21, .int 1, .int 1])), (q1, .inr (11, [.ref q17, w7, w8, w9, w10, w11, w12, w13, .int 0, .int 0, w16]))] H := hP
  have hD : va_D A [(q3, .inl (g.2 1, 1, .inr (.inl f74))), (q21, .inl (g.2 3, 10, .inr (.inr (.inr (.inr f22))))), (q26, .inr (8, [.ref q45, .ref q46, .ref q47, .ref q48, .int 0, .int 4, .int 0])), (q34, .inr (5, [.ref q55, .ref q56])), (q45, .inr (5, [.ref q51, .ref q52])), (q55, .inl (g.2 0, 384, .inl f57)), (q51, .inl (g.2 0, 384, .inl f57)), (q56, .inl (g.2 0, 40, .inl f58)), (q52, .inl (g.2 0, 40, .inl f58)), (q35, .inr (9, [.ref q69, .ref q70, .int 1, .int 0])), (q46, .inr (9, [.ref q63, .ref q64, .int 1, .int 0])), (q69, .inl (g.2 0, 10, .inl f57)), (q63, .inl (g.2 0, 10, .inl f57)), (q70, .inl (g.2 0, 10, .inl f71)), (q64, .inl (g.2 0, 10, .inl f71)), (q36, .inl (g.2 0, 60, .inl f57)), (q47, .inl (g.2 0, 60, .inl f57)), (q48, .inl (g.2 0, 20, .inl f72)), (q24, .inr (8, [.ref q34, .ref q35, .ref q36, .ref q37, .int 0, .int 4, .int 0])), (q37, .inl (g.2 0, 20, .inl (upd f72 19 x2))), (q17, .inr (10, [.ref q21, .int 1, .int 1])), (q1, .inr (11, [.ref q17, w7, w8, w9, w10, w11, w12, w13, .int 0, .int 0, w16]))] := hD
  refine lv_i2l (v := 5) hx hb dL_setPriority_8 (by decide) ?_
  refine x_last (ws' := [(q3, .inl (g.2 1, 1, .inr (.inl (vp_updL f74 0 5)))), (q21, .inl (g.2 3, 10, .inr (.inr (.inr (.inr f22))))), (q26, .inr (8, [.ref q45, .ref q46, .ref q47, .ref q48, .int 0, .int 4, .int 0])), (q34, .inr (5, [.ref q55, .ref q56])), (q45, .inr (5, [.ref q51, .ref q52])), (q55, .inl (g.2 0, 384, .inl f57)), (q51, .inl (g.2 0, 384, .inl f57)), (q56, .inl (g.2 0, 40, .inl f58)), (q52, .inl (g.2 0, 40, .inl f58)), (q35, .inr (9, [.ref q69, .ref q70, .int 1, .int 0])), (q46, .inr (9, [.ref q63, .ref q64, .int 1, .int 0])), (q69, .inl (g.2 0, 10, .inl f57)), (q63, .inl (g.2 0, 10, .inl f57)), (q70, .inl (g.2 0, 10, .inl f71)), (q64, .inl (g.2 0, 10, .inl f71)), (q36, .inl (g.2 0, 60, .inl f57)), (q47, .inl (g.2 0, 60, .inl f57)), (q48, .inl (g.2 0, 20, .inl f72)), (q24, .inr (8, [.ref q34, .ref q35, .ref q36, .ref q37, .int 0, .int 4, .int 0])), (q37, .inl (g.2 0, 20, .inl (upd f72 19 x2))), (q17, .inr (10, [.ref q21, .int 1, .int 1])), (q1, .inr (11, [.ref q17, w7, w8, w9, w10, w11, w12, w13, .int 0, .int 0, w16]))]) hx hb hE hP hD hS 0 rfl 0 (x_in (by decide)) (by decide) dL_setPriority_9 rfl (fun H locs hP hD hS => ?_)
  refine lv_goto (tgt := 21) hx hb dL_setPriority_10 (by decide) ?_
  refine lv_iconst (v := 0) hx hb dL_setPriority_21 (by decide) ?_
  exact x_zret hx hb hr rfl rfl hlocks hP hD hS hAe hsz (Nat.le_of_ble_eq_true rfl) (Nat.le_of_ble_eq_true rfl) (fun _ => 0) [0] (by decide) rfl dL_setPriority_22

set_option maxHeartbeats 4000000 in
set_option maxRecDepth 100000 in
theorem c2141_X10_sets (l : Launch) (g : gG) (q1 q42 q43 q44 : Nat) (x2 : Int32) (w6 w8 w11 w12 w13 w14 w15 w16 w17 w18 w19 w20 w21 w22 w23 w24 w25 w26 w27 w28 w29 w30 w31 w32 w33 w34 w35 w36 w37 w38 w39 w40 w41 : Value) (f45 : Nat → Int32) (f46 : Nat → Int32) (hf47 : f45 493 = 5) (h3 : (0 : Int32) ≤ x2) (h4 : x2 ≤ 9) (sz : Nat) : Met l yX10_sets [Cond.code yX10_sets cX10_sets 7 (some .int)] ({ frames := 2, cells := 0, slots := 0, locals := 41 } : Room) (va_Pc [.ref q1, .int 493, .int x2, .int 0, .int 9, .int 2] (PX g sz [(q44, .inl (g.2 0, 3976, .inl f46)), (q43, .inl (g.2 0, 497, .inl f46)), (q42, .inl (g.2 0, 497, .inl f45)), (q1, .inr (12, [.ref q42, w6, .ref q43, w8, .ref q44, .int 0, w11, w12, w13, w14, w15, w16, w17, w18, w19, w20, w21, w22, w23, w24, w25, w26, w27, w28, w29, w30, w31, w32, w33, w34, w35, w36, w37, w38, w39, w40, w41]))])) (QI g [(q44, .inl (g.2 0, 3976, .inl f46)), (q43, .inl (g.2 0, 497, .inl f46)), (q42, .inl (g.2 0, 497, .inl f45)), (q1, .inr (12, [.ref q42, w6, .ref q43, w8, .ref q44, .int 0, w11, w12, w13, w14, w15, w16, w17, w18, w19, w20, w21, w22, w23, w24, w25, w26, w27, w28, w29, w30, w31, w32, w33, w34, w35, w36, w37, w38, w39, w40, w41]))] sz 5 (fun _ => [(q42, .inl (g.2 0, 497, .inl (upd f45 493 x2))), (q44, .inl (g.2 0, 3976, .inl (cpF 497 (cpF 497 f45 f46) f46))), (q43, .inl (g.2 0, 497, .inl (cpF 497 f45 f46))), (q1, .inr (12, [.ref q42, w6, .ref q43, w8, .ref q44, .int 1, .int 0, w12, w13, w14, w15, w16, w17, w18, w19, w20, w21, w22, w23, w24, w25, w26, w27, w28, w29, w30, w31, w32, w33, w34, w35, w36, w37, w38, w39, w40, w41]))])) 0 0 (va_A [(q44, .inl (g.2 0, 3976, .inl f46)), (q43, .inl (g.2 0, 497, .inl f46)), (q42, .inl (g.2 0, 497, .inl f45)), (q1, .inr (12, [.ref q42, w6, .ref q43, w8, .ref q44, .int 0, w11, w12, w13, w14, w15, w16, w17, w18, w19, w20, w21, w22, w23, w24, w25, w26, w27, w28, w29, w30, w31, w32, w33, w34, w35, w36, w37, w38, w39, w40, w41]))] sz) := by
  refine ofN (by decide) (Nat.le_of_ble_eq_true rfl) rfl ?_
  intro p e s m args below meth c A ls hAe hsz hx hb hml hr hlocks hin hown hE hP hD hA hS hl
  have hown : s.vm.findClass RX10 = some m.cls := hown
  refine lv_aload_n hx hb dX10_sets_0 rfl (lv_at hl 0 rfl) ?_
  refine lv_iload_n hx hb dX10_sets_1 rfl (lv_at hl 2 rfl) ?_
  refine lv_iload_n hx hb dX10_sets_2 rfl (lv_at hl 3 rfl) ?_
  refine lv_iload hx hb dX10_sets_3 (lv_at hl 4 rfl) ?_
  refine g0_i (rS (rest := [.ref q1]) hx hb hml hown hE hP hD (c2119_X10_in l g x2 h3 h4 s.heap.size) (kS_X10_in hE (e1431 hE) rfl rfl ⟨(Nat.le_of_ble_eq_true rfl), (Nat.le_of_ble_eq_true rfl)⟩) [] rfl (by decide) rfl hl.1 rfl (lv_room (Nat.le_of_ble_eq_true rfl)) dX10_sets_5 ⟨(Nat.le_of_ble_eq_true rfl), (Nat.le_of_ble_eq_true rfl)⟩) hP hD hS hA (fun u9 H locs hP hS => ?_)
  refine lv_if_eq (tgt := 15) hx hb dX10_sets_8 (by decide) (fun h => absurd h (by decide)) (fun _ => ?_)
  refine lv_iconst (v := 0) hx hb dX10_sets_11 (by decide) ?_
  refine lv_goto (tgt := 17) hx hb dX10_sets_12 (by decide) ?_
  refine pf_RX10_86 (ws' := [(q44, .inl (g.2 0, 3976, .inl f46)), (q43, .inl (g.2 0, 497, .inl f46)), (q42, .inl (g.2 0, 497, .inl f45)), (q1, .inr (12, [.ref q42, w6, .ref q43, w8, .ref q44, .int 0, .int 0, w12, w13, w14, w15, w16, w17, w18, w19, w20, w21, w22, w23, w24, w25, w26, w27, w28, w29, w30, w31, w32, w33, w34, w35, w36, w37, w38, w39, w40, w41]))]) hx hb hown hE hP hD hS 3 rfl rfl rfl (Nat.le_of_ble_eq_true rfl) dX10_sets_17 rfl (fun H locs hP hD hS => ?_)
  refine lv_aload_n hx hb dX10_sets_20 rfl (lv_at hl 0 rfl) ?_
  refine gf_RX10_86 hx hb hown hE hP 3 rfl rfl dX10_sets_21 ?_
  refine lv_if_le (tgt := 29) hx hb dX10_sets_24 (by decide) (fun _ => ?_) (fun h => absurd (by decide) h)
  refine lv_aload_n hx hb dX10_sets_29 rfl (lv_at hl 0 rfl) ?_
  refine g_v (wr := []) (rV (rest := []) hx hb hml hown hE hP hD 3 rfl rfl (c1714_X10_keepNow l g q1 q42 q43 q44 w6 w8 (.int 0) w12 w13 w14 w15 w16 w17 w18 w19 w20 w21 w22 w23 w24 w25 w26 w27 w28 w29 w30 w31 w32 w33 w34 w35 w36 w37 w38 w39 w40 w41 f45 f46 H.size) (kV_X10_keepNow hE (e1494 hE) rfl rfl ⟨(Nat.le_of_ble_eq_true rfl), (Nat.le_of_ble_eq_true rfl)⟩) [0, 1, 2, 3] rfl (by decide) rfl hl.1 rfl (lv_room (Nat.le_of_ble_eq_true rfl)) dX10_sets_30 ⟨(Nat.le_of_ble_eq_true rfl), (Nat.le_of_ble_eq_true rfl)⟩) hP hD hS hA [0, 1, 2, 3] [] rfl rfl (by decide) (by decide) (fun u2 H locs hP hD hS => ?_)
  have hP : va_P g.1 vwCl [(q42, .inl (g.2 0, 497, .inl f45)), (q44, .inl (g.2 0, 3976, .inl (cpF 497 (cpF 497 f45 f46) f46))), (q43, .inl (g.2 0, 497, .inl (cpF 497 f45 f46))), (q1, .inr (12, [.ref q42, w6, .ref q43, w8, .ref q44, .int 1, .int 0, w12, w13, w14, w15, w16, w17, w18, w19, w20, w21, w22, w23, w24, w25, w26, w27, w28, w29, w30, w31, w32, w33, w34, w35, w36, w37, w38, w39, w40, w41]))] H := hP
  have hD : va_D A [(q42, .inl (g.2 0, 497, .inl f45)), (q44, .inl (g.2 0, 3976, .inl (cpF 497 (cpF 497 f45 f46) f46))), (q43, .inl (g.2 0, 497, .inl (cpF 497 f45 f46))), (q1, .inr (12, [.ref q42, w6, .ref q43, w8, .ref q44, .int 1, .int 0, w12, w13, w14, w15, w16, w17, w18, w19, w20, w21, w22, w23, w24, w25, w26, w27, w28, w29, w30, w31, w32, w33, w34, w35, w36, w37, w38, w39, w40, w41]))] := hD
  refine lv_aload_n hx hb dX10_sets_33 rfl (lv_at hl 0 rfl) ?_
  refine gf_RX10_9 hx hb hown hE hP 3 rfl rfl dX10_sets_34 ?_
  refine lv_iload_n hx hb dX10_sets_37 rfl (lv_at hl 1 rfl) ?_
  refine x_iald (v := 5) hx hb hE hP 0 rfl 493 (x_in (by decide)) (by decide) hf47 dX10_sets_38 ?_
  refine lv_istore (lv' := [(6, .int 5), (0, .ref q1), (1, .int 493), (2, .int x2), (3, .int 0), (4, .int 9), (5, .int 2)]) hx hb dX10_sets_39 hl (by decide) rfl (fun ls hl => ?_)
  refine lv_aload_n hx hb dX10_sets_41 rfl (lv_at hl 1 rfl) ?_
  refine gf_RX10_9 hx hb hown hE hP 3 rfl rfl dX10_sets_42 ?_
  refine lv_iload_n hx hb dX10_sets_45 rfl (lv_at hl 2 rfl) ?_
  refine lv_iload_n hx hb dX10_sets_46 rfl (lv_at hl 3 rfl) ?_
  refine x_iast (ws' := [(q42, .inl (g.2 0, 497, .inl (upd f45 493 x2))), (q44, .inl (g.2 0, 3976, .inl (cpF 497 (cpF 497 f45 f46) f46))), (q43, .inl (g.2 0, 497, .inl (cpF 497 f45 f46))), (q1, .inr (12, [.ref q42, w6, .ref q43, w8, .ref q44, .int 1, .int 0, w12, w13, w14, w15, w16, w17, w18, w19, w20, w21, w22, w23, w24, w25, w26, w27, w28, w29, w30, w31, w32, w33, w34, w35, w36, w37, w38, w39, w40, w41]))]) hx hb hE hP hD hS 0 rfl 493 (x_in (by decide)) (by decide) dX10_sets_47 rfl (fun H locs hP hD hS => ?_)
  refine lv_iload hx hb dX10_sets_48 (lv_at hl 0 rfl) ?_
  exact x_zret hx hb hr rfl rfl hlocks hP hD hS hAe hsz (Nat.le_of_ble_eq_true rfl) (Nat.le_of_ble_eq_true rfl) (fun _ => 0) [0, 1, 2, 3] (by decide) rfl dX10_sets_50

set_option maxHeartbeats 4000000 in
set_option maxRecDepth 100000 in
theorem c2142_X10_setPriority (l : Launch) (g : gG) (q1 q42 q43 q44 : Nat) (x2 : Int32) (w4 w6 w9 w10 w11 w12 w13 w14 w15 w16 w17 w18 w19 w20 w21 w22 w23 w24 w25 w26 w27 w28 w29 w30 w31 w32 w33 w34 w35 w36 w37 w38 w39 : Value) (f45 : Nat → Int32) (f46 : Nat → Int32) (hf47 : f45 493 = 5) (h40 : (0 : Int32) ≤ x2) (h41 : x2 ≤ 9) (sz : Nat) : Met l yX10_setPriority [Cond.code yX10_setPriority cX10_setPriority 3 (some .int)] ({ frames := 3, cells := 0, slots := 0, locals := 67 } : Room) (va_Pc [.ref q1, .int 3, .int x2] (PX g sz [(q44, .inl (g.2 0, 3976, .inl f46)), (q43, .inl (g.2 0, 497, .inl f46)), (q42, .inl (g.2 0, 497, .inl f45)), (q1, .inr (12, [.ref q42, w4, .ref q43, w6, .ref q44, .int 0, w9, w10, w11, w12, w13, w14, w15, w16, w17, w18, w19, w20, w21, w22, w23, w24, w25, w26, w27, w28, w29, w30, w31, w32, w33, w34, w35, w36, w37, w38, w39]))])) (QI g [(q44, .inl (g.2 0, 3976, .inl f46)), (q43, .inl (g.2 0, 497, .inl f46)), (q42, .inl (g.2 0, 497, .inl f45)), (q1, .inr (12, [.ref q42, w4, .ref q43, w6, .ref q44, .int 0, w9, w10, w11, w12, w13, w14, w15, w16, w17, w18, w19, w20, w21, w22, w23, w24, w25, w26, w27, w28, w29, w30, w31, w32, w33, w34, w35, w36, w37, w38, w39]))] sz 5 (fun _ => [(q1, .inr (12, [.ref q42, w4, .ref q43, w6, .ref q44, .int 1, .int 0, w10, w11, w12, w13, w14, w15, w16, w17, w18, w19, w20, w21, w22, w23, w24, w25, w26, w27, w28, w29, w30, w31, w32, w33, w34, w35, w36, w37, w38, w39]))])) 0 0 (va_A [(q44, .inl (g.2 0, 3976, .inl f46)), (q43, .inl (g.2 0, 497, .inl f46)), (q42, .inl (g.2 0, 497, .inl f45)), (q1, .inr (12, [.ref q42, w4, .ref q43, w6, .ref q44, .int 0, w9, w10, w11, w12, w13, w14, w15, w16, w17, w18, w19, w20, w21, w22, w23, w24, w25, w26, w27, w28, w29, w30, w31, w32, w33, w34, w35, w36, w37, w38, w39]))] sz) := by
  refine ofN (by decide) (Nat.le_of_ble_eq_true rfl) rfl ?_
  intro p e s m args below meth c A ls hAe hsz hx hb hml hr hlocks hin hown hE hP hD hA hS hl
  have hown : s.vm.findClass RX10 = some m.cls := hown
  refine lv_aload_n hx hb dX10_setPriority_0 rfl (lv_at hl 0 rfl) ?_
  refine lv_iconst (v := 1) hx hb dX10_setPriority_1 (by decide) ?_
  refine pf_RX10_86 (ws' := [(q44, .inl (g.2 0, 3976, .inl f46)), (q43, .inl (g.2 0, 497, .inl f46)), (q42, .inl (g.2 0, 497, .inl f45)), (q1, .inr (12, [.ref q42, w4, .ref q43, w6, .ref q44, .int 0, .int 1, w10, w11, w12, w13, w14, w15, w16, w17, w18, w19, w20, w21, w22, w23, w24, w25, w26, w27, w28, w29, w30, w31, w32, w33, w34, w35, w36, w37, w38, w39]))]) hx hb hown hE hP hD hS 3 rfl rfl rfl (Nat.le_of_ble_eq_true rfl) dX10_setPriority_2 rfl (fun H locs hP hD hS => ?_)
  refine lv_iload_n hx hb dX10_setPriority_5 rfl (lv_at hl 1 rfl) ?_
  refine g0_i (rS (rest := []) hx hb hml hown hE hP hD (c1857_X10_isInstrument l g 3 (by decide) (by decide) H.size) (kS_X10_isInstrument hE (e1645 hE) rfl rfl ⟨(Nat.le_of_ble_eq_true rfl), (Nat.le_of_ble_eq_true rfl)⟩) [] rfl (by decide) rfl hl.1 rfl (lv_room (Nat.le_of_ble_eq_true rfl)) dX10_setPriority_6 ⟨(Nat.le_of_ble_eq_true rfl), (Nat.le_of_ble_eq_true rfl)⟩) hP hD hS hA (fun u9 H locs hP hS => ?_)
  refine lv_if_eq (tgt := 33) hx hb dX10_setPriority_9 (by decide) (fun h => absurd h (by decide)) (fun _ => ?_)
  refine lv_aload_n hx hb dX10_setPriority_12 rfl (lv_at hl 0 rfl) ?_
  refine lv_sipush (v := 474) hx hb dX10_setPriority_13 (by decide) ?_
  refine lv_iconst (v := 5) hx hb dX10_setPriority_16 (by decide) ?_
  refine lv_iload_n hx hb dX10_setPriority_17 rfl (lv_at hl 1 rfl) ?_
  refine x_imul (v := 15) hx hb dX10_setPriority_18 (by decide) ?_
  refine x_iadd (v := 489) hx hb dX10_setPriority_19 (by decide) ?_
  refine lv_iconst (v := 4) hx hb dX10_setPriority_20 (by decide) ?_
  refine x_iadd (v := 493) hx hb dX10_setPriority_21 (by decide) ?_
  refine lv_iload_n hx hb dX10_setPriority_22 rfl (lv_at hl 2 rfl) ?_
  refine lv_iconst (v := 0) hx hb dX10_setPriority_23 (by decide) ?_
  refine lv_bipush (v := 9) hx hb dX10_setPriority_24 (by decide) ?_
  refine lv_iconst (v := 2) hx hb dX10_setPriority_26 (by decide) ?_
  refine g_i (wr := []) (rV (rest := []) hx hb hml hown hE hP hD 3 rfl rfl (c2141_X10_sets l g q1 q42 q43 q44 x2 w4 w6 (.int 1) w10 w11 w12 w13 w14 w15 w16 w17 w18 w19 w20 w21 w22 w23 w24 w25 w26 w27 w28 w29 w30 w31 w32 w33 w34 w35 w36 w37 w38 w39 f45 f46 (hf47) h40 h41 H.size) (kV_X10_sets hE (e1628 hE) rfl rfl ⟨(Nat.le_of_ble_eq_true rfl), (Nat.le_of_ble_eq_true rfl)⟩) [0, 1, 2, 3] rfl (by decide) rfl hl.1 rfl (lv_room (Nat.le_of_ble_eq_true rfl)) dX10_setPriority_27 ⟨(Nat.le_of_ble_eq_true rfl), (Nat.le_of_ble_eq_true rfl)⟩) hP hD hS hA [0, 1, 2, 3] [] rfl rfl (by decide) (by decide) (fun u2 H locs hP hD hS => ?_)
  have hP : va_P g.1 vwCl [(q42, .inl (g.2 0, 497, .inl (upd f45 493 x2))), (q44, .inl (g.2 0, 3976, .inl (cpF 497 (cpF 497 f45 f46) f46))), (q43, .inl (g.2 0, 497, .inl (cpF 497 f45 f46))), (q1, .inr (12, [.ref q42, w4, .ref q43, w6, .ref q44, .int 1, .int 0, w10, w11, w12, w13, w14, w15, w16, w17, w18, w19, w20, w21, w22, w23, w24, w25, w26, w27, w28, w29, w30, w31, w32, w33, w34, w35, w36, w37, w38, w39]))] H := hP
  have hD : va_D A [(q42, .inl (g.2 0, 497, .inl (upd f45 493 x2))), (q44, .inl (g.2 0, 3976, .inl (cpF 497 (cpF 497 f45 f46) f46))), (q43, .inl (g.2 0, 497, .inl (cpF 497 f45 f46))), (q1, .inr (12, [.ref q42, w4, .ref q43, w6, .ref q44, .int 1, .int 0, w10, w11, w12, w13, w14, w15, w16, w17, w18, w19, w20, w21, w22, w23, w24, w25, w26, w27, w28, w29, w30, w31, w32, w33, w34, w35, w36, w37, w38, w39]))] := hD
  refine lv_goto (tgt := 34) hx hb dX10_setPriority_30 (by decide) ?_
  exact x_zret hx hb hr rfl rfl hlocks hP hD hS hAe hsz (Nat.le_of_ble_eq_true rfl) (Nat.le_of_ble_eq_true rfl) (fun _ => 0) [3] (by decide) rfl dX10_setPriority_34

set_option maxHeartbeats 4000000 in
set_option maxRecDepth 100000 in
theorem c2143_X9_requireRange (l : Launch) (g : gG) (hlx : l.stackTraces = false) (x1 : Int32) (h2 : (0 : Int32) ≤ x1) (h3 : (9 : Int32) < x1) (sz : Nat) : vx_Met l yX9_requireRange [Cond.code yX9_requireRange cX9_requireRange 3 none] ({ frames := 6, cells := 1, slots := 6, locals := 100 } : Room) (va_Pc [.int x1, .int 0, .int 9] (PZ g sz [])) NV (XW g [] sz "java/lang/IllegalArgumentException" []) 1 6 (va_A [] sz) := by
  refine ofX (by decide) (Nat.le_of_ble_eq_true rfl) rfl ?_
  intro p e s m args below meth c A ls hAe hsz hx hb hml hr hlocks hin hown hE hP hD hA hS hl hex hz
  have hown : s.vm.findClass RX9 = some m.cls := hown
  refine lv_iload_n hx hb dX9_requireRange_0 rfl (lv_at hl 0 rfl) ?_
  refine lv_iload_n hx hb dX9_requireRange_1 rfl (lv_at hl 1 rfl) ?_
  refine lv_icmp_lt (tgt := 10) hx hb dX9_requireRange_2 (by decide) (fun h => absurd h (i_nlt h2)) (fun _ => ?_)
  refine lv_iload_n hx hb dX9_requireRange_5 rfl (lv_at hl 0 rfl) ?_
  refine lv_iload_n hx hb dX9_requireRange_6 rfl (lv_at hl 2 rfl) ?_
  refine lv_icmp_le (tgt := 21) hx hb dX9_requireRange_7 (by decide) (fun h => absurd h (i_nle h3)) (fun _ => ?_)
  exact x_throwW (text := "a number is out of range") (names := ["java/lang/RuntimeException", "java/lang/Exception"]) hx hb hlx hown hE (by decide) (by decide) (e639 hE) (e20 hE) (by decide +kernel) (th_215 hE) tg_215_211 hz (by rw [hml]; exact hl.1) dX9_requireRange_10 dX9_requireRange_13 dX9_requireRange_14 dX9_requireRange_17 dX9_requireRange_20 hex (Nat.le_of_ble_eq_true rfl) (Nat.le_of_ble_eq_true rfl) (Nat.le_of_ble_eq_true rfl) (Nat.le_of_ble_eq_true rfl) hlocks hP hD hS hAe hsz (Nat.le_of_ble_eq_true rfl) (Nat.le_of_ble_eq_true rfl) [] (by decide) rfl

set_option maxHeartbeats 4000000 in
set_option maxRecDepth 100000 in
theorem c2144_X9_setPriority (l : Launch) (g : gG) (hlx : l.stackTraces = false) (q1 : Nat) (x2 x3 : Int32) (h4 : (0 : Int32) ≤ x2) (h5 : x2 < 4) (h6 : (0 : Int32) ≤ x3) (h7 : (9 : Int32) < x3) (sz : Nat) : vx_Met l yX9_setPriority [Cond.code yX9_setPriority cX9_setPriority 5 (some .int)] ({ frames := 7, cells := 1, slots := 6, locals := 122 } : Room) (va_Pc [.ref q1, .int x2, .int x3] (PZ g sz [])) NI (XW g [] sz "java/lang/IllegalArgumentException" []) 1 6 (va_A [] sz) := by
  refine ofX (by decide) (Nat.le_of_ble_eq_true rfl) rfl ?_
  intro p e s m args below meth c A ls hAe hsz hx hb hml hr hlocks hin hown hE hP hD hA hS hl hex hz
  have hown : s.vm.findClass RX9 = some m.cls := hown
  refine lv_iload_n hx hb dX9_setPriority_0 rfl (lv_at hl 1 rfl) ?_
  refine g0_v (rS (rest := []) hx hb hml hown hE hP hD (c1854_X9_requireInstrument l g x2 h4 h5 s.heap.size) (kS_X9_requireInstrument hE (e991 hE) rfl rfl ⟨(Nat.le_of_ble_eq_true rfl), (Nat.le_of_ble_eq_true rfl)⟩) [] rfl (by decide) rfl hl.1 rfl (lv_room (Nat.le_of_ble_eq_true rfl)) dX9_setPriority_1 ⟨(Nat.le_of_ble_eq_true rfl), (Nat.le_of_ble_eq_true rfl)⟩) hP hD hS hA (fun u9 H locs hP hS => ?_)
  refine lv_iload_n hx hb dX9_setPriority_4 rfl (lv_at hl 2 rfl) ?_
  refine lv_iconst (v := 0) hx hb dX9_setPriority_5 (by decide) ?_
  refine lv_bipush (v := 9) hx hb dX9_setPriority_6 (by decide) ?_
  refine gx_v (wr := []) (rSx (rest := []) hx hb hml hown hE hP hD hS hA hz (c2143_X9_requireRange l g hlx x3 h6 h7 H.size) (kS_X9_requireRange hE (e636 hE) rfl rfl ⟨(Nat.le_of_ble_eq_true rfl), (Nat.le_of_ble_eq_true rfl)⟩) [] rfl (by decide) rfl hl.1 rfl (lv_room (Nat.le_of_ble_eq_true rfl)) dX9_setPriority_8 ⟨(Nat.le_of_ble_eq_true rfl), (Nat.le_of_ble_eq_true rfl)⟩) hP hD hS hA [] [] rfl rfl (by decide) (by decide) (fun ce9 q9 H locs hP hD hS hq1 hq2 hq3 => ?_)
  exact x_out hex hlocks hq1 hq2 hq3 hP hD hS hAe hsz (Nat.le_of_ble_eq_true rfl) (Nat.le_of_ble_eq_true rfl) [] (by decide) rfl

set_option maxHeartbeats 4000000 in
set_option maxRecDepth 100000 in
theorem c2145_L_setPriority (l : Launch) (g : gG) (hlx : l.stackTraces = false) (q1 q4 : Nat) (x2 x3 : Int32) (w9 w10 w11 w12 w13 w14 w15 w16 w17 w18 w19 : Value) (h5 : (0 : Int32) ≤ x2) (h6 : x2 < 4) (h7 : (0 : Int32) ≤ x3) (h8 : (9 : Int32) < x3) (sz : Nat) : Met l yL_setPriority [Cond.codeWith yL_setPriority cL_setPriority 5 (some .int) [(0, 10, 13, 13), (0, 10, 17, 15)]] ({ frames := 8, cells := 1, slots := 6, locals := 146 } : Room) (va_Pc [.ref q1, .int x2, .int x3, .ref q4] (PZ g sz [(q1, .inr (11, [w9, w10, w11, w12, w13, w14, w15, w16, w17, w18, w19]))])) (QI g [(q1, .inr (11, [w9, w10, w11, w12, w13, w14, w15, w16, w17, w18, w19]))] sz 2 (fun _ => [])) 1 6 (va_A [(q1, .inr (11, [w9, w10, w11, w12, w13, w14, w15, w16, w17, w18, w19]))] sz) := by
  refine ofH (by decide) (Nat.le_of_ble_eq_true rfl) rfl ?_
  intro p e s m args below meth c A ls hAe hsz hx hb hml hr hlocks hin hown hE hP hD hA hS hl htb hz
  have hown : s.vm.findClass RL = some m.cls := hown
  refine lv_aload_n hx hb dL_setPriority_0 rfl (lv_at hl 3 rfl) ?_
  refine lv_iconst (v := 0) hx hb dL_setPriority_1 (by decide) ?_
  refine lv_aload_n hx hb dL_setPriority_2 rfl (lv_at hl 0 rfl) ?_
  refine lv_iload_n hx hb dL_setPriority_3 rfl (lv_at hl 1 rfl) ?_
  refine lv_iload_n hx hb dL_setPriority_4 rfl (lv_at hl 2 rfl) ?_
  refine gx_i (wr := [(q1, .inr (11, [w9, w10, w11, w12, w13, w14, w15, w16, w17, w18, w19]))]) (rVx (rest := [.int 0, .ref q4]) hx hb hml hown hE hP hD hS hA hz 0 rfl rfl (c2144_X9_setPriority l g hlx q1 x2 x3 h5 h6 h7 h8 s.heap.size) (kV_X9_setPriority hE (e1006 hE) rfl rfl ⟨(Nat.le_of_ble_eq_true rfl), (Nat.le_of_ble_eq_true rfl)⟩) [] rfl (by decide) rfl hl.1 rfl (lv_room (Nat.le_of_ble_eq_true rfl)) dL_setPriority_5 ⟨(Nat.le_of_ble_eq_true rfl), (Nat.le_of_ble_eq_true rfl)⟩) hP hD hS hA [] [0] rfl rfl (by decide) (by decide) (fun ce9 q9 H locs hP hD hS hq1 hq2 hq3 => ?_)
  have hP : va_P g.1 vwCl [(q1, .inr (11, [w9, w10, w11, w12, w13, w14, w15, w16, w17, w18, w19]))] H := hP
  have hD : va_D A [(q1, .inr (11, [w9, w10, w11, w12, w13, w14, w15, w16, w17, w18, w19]))] := hD
  refine x_catch (name := "java/lang/IllegalArgumentException") (hh := [(0, 10, 13, 13), (0, 10, 17, 15)]) (tgt := 17) hown htb [⟨0, 10, 13, 13⟩] ⟨0, 10, 17, 15⟩ [] rfl (fun z hz => by
    rcases List.mem_cons.mp hz with rfl | hz
    · exact Or.inr ⟨by decide, "java/lang/IndexOutOfBoundsException", e532 hE, hE.2.2.2.2.2 ("java/lang/IllegalArgumentException", "java/lang/IndexOutOfBoundsException") (by decide +kernel)⟩
    exact nomatch hz) rfl (by decide) (e611 hE) (e641 hE) hq1 hq2 hq3 rfl ?_
  refine lv_astore (lv' := [(4, .ref q9), (0, .ref q1), (1, .int x2), (2, .int x3), (3, .ref q4)]) hx hb dL_setPriority_17 hl (by decide) rfl (fun ls hl => ?_)
  refine lv_iconst (v := 2) hx hb dL_setPriority_19 (by decide) ?_
  exact x_zret hx hb hr rfl rfl hlocks hP hD hS hAe hsz (Nat.le_of_ble_eq_true rfl) (Nat.le_of_ble_eq_true rfl) (fun _ => 0) [] (by decide) rfl dL_setPriority_20

set_option maxHeartbeats 4000000 in
set_option maxRecDepth 100000 in
theorem c2146_X10_in (l : Launch) (g : gG) (x1 : Int32) (h2 : (0 : Int32) ≤ x1) (h3 : (9 : Int32) < x1) (sz : Nat) : Met l yX10_in [Cond.code yX10_in cX10_in 3 (some .boolean)] ({ frames := 0, cells := 0, slots := 0, locals := 0 } : Room) (va_Pc [.int x1, .int 0, .int 9] (PX g sz [])) (QI g [] sz 0 (fun _ => [])) 0 0 (va_A [] sz) := by
  refine ofN (by decide) (Nat.le_of_ble_eq_true rfl) rfl ?_
  intro p e s m args below meth c A ls hAe hsz hx hb hml hr hlocks hin hown hE hP hD hA hS hl
  have hown : s.vm.findClass RX10 = some m.cls := hown
  refine lv_iload_n hx hb dX10_in_0 rfl (lv_at hl 0 rfl) ?_
  refine lv_iload_n hx hb dX10_in_1 rfl (lv_at hl 1 rfl) ?_
  refine lv_icmp_lt (tgt := 14) hx hb dX10_in_2 (by decide) (fun h => absurd h (i_nlt h2)) (fun _ => ?_)
  refine lv_iload_n hx hb dX10_in_5 rfl (lv_at hl 0 rfl) ?_
  refine lv_iload_n hx hb dX10_in_6 rfl (lv_at hl 2 rfl) ?_
  refine lv_icmp_gt (tgt := 14) hx hb dX10_in_7 (by decide) (fun _ => ?_) (fun h => absurd h3 h)
  refine lv_iconst (v := 0) hx hb dX10_in_14 (by decide) ?_
  exact x_zret hx hb hr rfl rfl hlocks hP hD hS hAe hsz (Nat.le_of_ble_eq_true rfl) (Nat.le_of_ble_eq_true rfl) (fun _ => 0) [] (by decide) rfl dX10_in_15

set_option maxHeartbeats 4000000 in
set_option maxRecDepth 100000 in
theorem c2147_X10_sets (l : Launch) (g : gG) (q1 : Nat) (x2 x3 : Int32) (w6 w7 w8 w9 w10 w11 w12 w13 w14 w15 w16 w17 w18 w19 w20 w21 w22 w23 w24 w25 w26 w27 w28 w29 w30 w31 w32 w33 w34 w35 w36 w37 w38 w39 w40 w41 w42 : Value) (h4 : (0 : Int32) ≤ x3) (h5 : (9 : Int32) < x3) (sz : Nat) : Met l yX10_sets [Cond.code yX10_sets cX10_sets 7 (some .int)] ({ frames := 1, cells := 0, slots := 0, locals := 22 } : Room) (va_Pc [.ref q1, .int x2, .int x3, .int 0, .int 9, .int 2] (PX g sz [(q1, .inr (12, [w6, w7, w8, w9, w10, w11, w12, w13, w14, w15, w16, w17, w18, w19, w20, w21, w22, w23, w24, w25, w26, w27, w28, w29, w30, w31, w32, w33, w34, w35, w36, w37, w38, w39, w40, w41, w42]))])) (QI g [(q1, .inr (12, [w6, w7, w8, w9, w10, w11, w12, w13, w14, w15, w16, w17, w18, w19, w20, w21, w22, w23, w24, w25, w26, w27, w28, w29, w30, w31, w32, w33, w34, w35, w36, w37, w38, w39, w40, w41, w42]))] sz 0 (fun _ => [(q1, .inr (12, [w6, w7, w8, w9, w10, w11, .int 2, w13, w14, w15, w16, w17, w18, w19, w20, w21, w22, w23, w24, w25, w26, w27, w28, w29, w30, w31, w32, w33, w34, w35, w36, w37, w38, w39, w40, w41, w42]))])) 0 0 (va_A [(q1, .inr (12, [w6, w7, w8, w9, w10, w11, w12, w13, w14, w15, w16, w17, w18, w19, w20, w21, w22, w23, w24, w25, w26, w27, w28, w29, w30, w31, w32, w33, w34, w35, w36, w37, w38, w39, w40, w41, w42]))] sz) := by
  refine ofN (by decide) (Nat.le_of_ble_eq_true rfl) rfl ?_
  intro p e s m args below meth c A ls hAe hsz hx hb hml hr hlocks hin hown hE hP hD hA hS hl
  have hown : s.vm.findClass RX10 = some m.cls := hown
  refine lv_aload_n hx hb dX10_sets_0 rfl (lv_at hl 0 rfl) ?_
  refine lv_iload_n hx hb dX10_sets_1 rfl (lv_at hl 2 rfl) ?_
  refine lv_iload_n hx hb dX10_sets_2 rfl (lv_at hl 3 rfl) ?_
  refine lv_iload hx hb dX10_sets_3 (lv_at hl 4 rfl) ?_
  refine g0_i (rS (rest := [.ref q1]) hx hb hml hown hE hP hD (c2146_X10_in l g x3 h4 h5 s.heap.size) (kS_X10_in hE (e1431 hE) rfl rfl ⟨(Nat.le_of_ble_eq_true rfl), (Nat.le_of_ble_eq_true rfl)⟩) [] rfl (by decide) rfl hl.1 rfl (lv_room (Nat.le_of_ble_eq_true rfl)) dX10_sets_5 ⟨(Nat.le_of_ble_eq_true rfl), (Nat.le_of_ble_eq_true rfl)⟩) hP hD hS hA (fun u9 H locs hP hS => ?_)
  refine lv_if_eq (tgt := 15) hx hb dX10_sets_8 (by decide) (fun _ => ?_) (fun h => absurd (by decide) h)
  refine lv_iload hx hb dX10_sets_15 (lv_at hl 5 rfl) ?_
  refine pf_RX10_86 (ws' := [(q1, .inr (12, [w6, w7, w8, w9, w10, w11, .int 2, w13, w14, w15, w16, w17, w18, w19, w20, w21, w22, w23, w24, w25, w26, w27, w28, w29, w30, w31, w32, w33, w34, w35, w36, w37, w38, w39, w40, w41, w42]))]) hx hb hown hE hP hD hS 0 rfl rfl rfl (Nat.le_of_ble_eq_true rfl) dX10_sets_17 rfl (fun H locs hP hD hS => ?_)
  refine lv_aload_n hx hb dX10_sets_20 rfl (lv_at hl 0 rfl) ?_
  refine gf_RX10_86 hx hb hown hE hP 0 rfl rfl dX10_sets_21 ?_
  refine lv_if_le (tgt := 29) hx hb dX10_sets_24 (by decide) (fun h => absurd h (by decide)) (fun _ => ?_)
  refine lv_iconst (v := 0) hx hb dX10_sets_27 (by decide) ?_
  exact x_zret hx hb hr rfl rfl hlocks hP hD hS hAe hsz (Nat.le_of_ble_eq_true rfl) (Nat.le_of_ble_eq_true rfl) (fun _ => 0) [0] (by decide) rfl dX10_sets_28

set_option maxHeartbeats 4000000 in
set_option maxRecDepth 100000 in
theorem c2148_X10_setPriority (l : Launch) (g : gG) (q1 : Nat) (x2 x3 : Int32) (w4 w5 w6 w7 w8 w9 w10 w11 w12 w13 w14 w15 w16 w17 w18 w19 w20 w21 w22 w23 w24 w25 w26 w27 w28 w29 w30 w31 w32 w33 w34 w35 w36 w37 w38 w39 w40 : Value) (h41 : (0 : Int32) ≤ x2) (h42 : x2 ≤ 3) (h43 : (0 : Int32) ≤ x3) (h44 : (9 : Int32) < x3) (sz : Nat) : Met l yX10_setPriority [Cond.code yX10_setPriority cX10_setPriority 3 (some .int)] ({ frames := 2, cells := 0, slots := 0, locals := 48 } : Room) (va_Pc [.ref q1, .int x2, .int x3] (PX g sz [(q1, .inr (12, [w4, w5, w6, w7, w8, w9, w10, w11, w12, w13, w14, w15, w16, w17, w18, w19, w20, w21, w22, w23, w24, w25, w26, w27, w28, w29, w30, w31, w32, w33, w34, w35, w36, w37, w38, w39, w40]))])) (QI g [(q1, .inr (12, [w4, w5, w6, w7, w8, w9, w10, w11, w12, w13, w14, w15, w16, w17, w18, w19, w20, w21, w22, w23, w24, w25, w26, w27, w28, w29, w30, w31, w32, w33, w34, w35, w36, w37, w38, w39, w40]))] sz 0 (fun _ => [(q1, .inr (12, [w4, w5, w6, w7, w8, w9, .int 2, w11, w12, w13, w14, w15, w16, w17, w18, w19, w20, w21, w22, w23, w24, w25, w26, w27, w28, w29, w30, w31, w32, w33, w34, w35, w36, w37, w38, w39, w40]))])) 0 0 (va_A [(q1, .inr (12, [w4, w5, w6, w7, w8, w9, w10, w11, w12, w13, w14, w15, w16, w17, w18, w19, w20, w21, w22, w23, w24, w25, w26, w27, w28, w29, w30, w31, w32, w33, w34, w35, w36, w37, w38, w39, w40]))] sz) := by
  refine ofN (by decide) (Nat.le_of_ble_eq_true rfl) rfl ?_
  intro p e s m args below meth c A ls hAe hsz hx hb hml hr hlocks hin hown hE hP hD hA hS hl
  have hown : s.vm.findClass RX10 = some m.cls := hown
  refine lv_aload_n hx hb dX10_setPriority_0 rfl (lv_at hl 0 rfl) ?_
  refine lv_iconst (v := 1) hx hb dX10_setPriority_1 (by decide) ?_
  refine pf_RX10_86 (ws' := [(q1, .inr (12, [w4, w5, w6, w7, w8, w9, .int 1, w11, w12, w13, w14, w15, w16, w17, w18, w19, w20, w21, w22, w23, w24, w25, w26, w27, w28, w29, w30, w31, w32, w33, w34, w35, w36, w37, w38, w39, w40]))]) hx hb hown hE hP hD hS 0 rfl rfl rfl (Nat.le_of_ble_eq_true rfl) dX10_setPriority_2 rfl (fun H locs hP hD hS => ?_)
  refine lv_iload_n hx hb dX10_setPriority_5 rfl (lv_at hl 1 rfl) ?_
  refine g0_i (rS (rest := []) hx hb hml hown hE hP hD (c1857_X10_isInstrument l g x2 h41 h42 H.size) (kS_X10_isInstrument hE (e1645 hE) rfl rfl ⟨(Nat.le_of_ble_eq_true rfl), (Nat.le_of_ble_eq_true rfl)⟩) [] rfl (by decide) rfl hl.1 rfl (lv_room (Nat.le_of_ble_eq_true rfl)) dX10_setPriority_6 ⟨(Nat.le_of_ble_eq_true rfl), (Nat.le_of_ble_eq_true rfl)⟩) hP hD hS hA (fun u9 H locs hP hS => ?_)
  refine lv_if_eq (tgt := 33) hx hb dX10_setPriority_9 (by decide) (fun h => absurd h (by decide)) (fun _ => ?_)
  refine lv_aload_n hx hb dX10_setPriority_12 rfl (lv_at hl 0 rfl) ?_
  refine lv_sipush (v := 474) hx hb dX10_setPriority_13 (by decide) ?_
  refine lv_iconst (v := 5) hx hb dX10_setPriority_16 (by decide) ?_
  refine lv_iload_n hx hb dX10_setPriority_17 rfl (lv_at hl 1 rfl) ?_
  refine x_imul (v := (5 * x2)) hx hb dX10_setPriority_18 rfl ?_
  refine x_iadd (v := (474 + (5 * x2))) hx hb dX10_setPriority_19 rfl ?_
  refine lv_iconst (v := 4) hx hb dX10_setPriority_20 (by decide) ?_
  refine x_iadd (v := ((474 + (5 * x2)) + 4)) hx hb dX10_setPriority_21 rfl ?_
  refine lv_iload_n hx hb dX10_setPriority_22 rfl (lv_at hl 2 rfl) ?_
  refine lv_iconst (v := 0) hx hb dX10_setPriority_23 (by decide) ?_
  refine lv_bipush (v := 9) hx hb dX10_setPriority_24 (by decide) ?_
  refine lv_iconst (v := 2) hx hb dX10_setPriority_26 (by decide) ?_
  refine g_i (wr := []) (rV (rest := []) hx hb hml hown hE hP hD 0 rfl rfl (c2147_X10_sets l g q1 ((474 + (5 * x2)) + 4) x3 w4 w5 w6 w7 w8 w9 (.int 1) w11 w12 w13 w14 w15 w16 w17 w18 w19 w20 w21 w22 w23 w24 w25 w26 w27 w28 w29 w30 w31 w32 w33 w34 w35 w36 w37 w38 w39 w40 h43 h44 H.size) (kV_X10_sets hE (e1628 hE) rfl rfl ⟨(Nat.le_of_ble_eq_true rfl), (Nat.le_of_ble_eq_true rfl)⟩) [0] rfl (by decide) rfl hl.1 rfl (lv_room (Nat.le_of_ble_eq_true rfl)) dX10_setPriority_27 ⟨(Nat.le_of_ble_eq_true rfl), (Nat.le_of_ble_eq_true rfl)⟩) hP hD hS hA [0] [] rfl rfl (by decide) (by decide) (fun u2 H locs hP hD hS => ?_)
  have hP : va_P g.1 vwCl [(q1, .inr (12, [w4, w5, w6, w7, w8, w9, .int 2, w11, w12, w13, w14, w15, w16, w17, w18, w19, w20, w21, w22, w23, w24, w25, w26, w27, w28, w29, w30, w31, w32, w33, w34, w35, w36, w37, w38, w39, w40]))] H := hP
  have hD : va_D A [(q1, .inr (12, [w4, w5, w6, w7, w8, w9, .int 2, w11, w12, w13, w14, w15, w16, w17, w18, w19, w20, w21, w22, w23, w24, w25, w26, w27, w28, w29, w30, w31, w32, w33, w34, w35, w36, w37, w38, w39, w40]))] := hD
  refine lv_goto (tgt := 34) hx hb dX10_setPriority_30 (by decide) ?_
  exact x_zret hx hb hr rfl rfl hlocks hP hD hS hAe hsz (Nat.le_of_ble_eq_true rfl) (Nat.le_of_ble_eq_true rfl) (fun _ => 0) [0] (by decide) rfl dX10_setPriority_34

set_option maxHeartbeats 4000000 in
set_option maxRecDepth 100000 in
theorem c2149_X9_setPriority (l : Launch) (g : gG) (hlx : l.stackTraces = false) (q1 : Nat) (x2 x3 : Int32) (h4 : (0 : Int32) ≤ x2) (h5 : (4 : Int32) ≤ x2) (sz : Nat) : vx_Met l yX9_setPriority [Cond.code yX9_setPriority cX9_setPriority 5 (some .int)] ({ frames := 8, cells := 1, slots := 6, locals := 141 } : Room) (va_Pc [.ref q1, .int x2, .int x3] (PZ g sz [])) NI (XW g [] sz "java/lang/IndexOutOfBoundsException" []) 1 6 (va_A [] sz) := by
  refine ofX (by decide) (Nat.le_of_ble_eq_true rfl) rfl ?_
  intro p e s m args below meth c A ls hAe hsz hx hb hml hr hlocks hin hown hE hP hD hA hS hl hex hz
  have hown : s.vm.findClass RX9 = some m.cls := hown
  refine lv_iload_n hx hb dX9_setPriority_0 rfl (lv_at hl 1 rfl) ?_
  refine gx_v (wr := []) (rSx (rest := []) hx hb hml hown hE hP hD hS hA hz (c2093_X9_requireInstrument l g hlx x2 h4 h5 s.heap.size) (kS_X9_requireInstrument hE (e991 hE) rfl rfl ⟨(Nat.le_of_ble_eq_true rfl), (Nat.le_of_ble_eq_true rfl)⟩) [] rfl (by decide) rfl hl.1 rfl (lv_room (Nat.le_of_ble_eq_true rfl)) dX9_setPriority_1 ⟨(Nat.le_of_ble_eq_true rfl), (Nat.le_of_ble_eq_true rfl)⟩) hP hD hS hA [] [] rfl rfl (by decide) (by decide) (fun ce9 q9 H locs hP hD hS hq1 hq2 hq3 => ?_)
  exact x_out hex hlocks hq1 hq2 hq3 hP hD hS hAe hsz (Nat.le_of_ble_eq_true rfl) (Nat.le_of_ble_eq_true rfl) [] (by decide) rfl

set_option maxHeartbeats 4000000 in
set_option maxRecDepth 100000 in
theorem c2150_L_setPriority (l : Launch) (g : gG) (hlx : l.stackTraces = false) (q1 q4 : Nat) (x2 x3 : Int32) (w7 w8 w9 w10 w11 w12 w13 w14 w15 w16 w17 : Value) (h5 : (0 : Int32) ≤ x2) (h6 : (4 : Int32) ≤ x2) (sz : Nat) : Met l yL_setPriority [Cond.codeWith yL_setPriority cL_setPriority 5 (some .int) [(0, 10, 13, 13), (0, 10, 17, 15)]] ({ frames := 9, cells := 1, slots := 6, locals := 165 } : Room) (va_Pc [.ref q1, .int x2, .int x3, .ref q4] (PZ g sz [(q1, .inr (11, [w7, w8, w9, w10, w11, w12, w13, w14, w15, w16, w17]))])) (QI g [(q1, .inr (11, [w7, w8, w9, w10, w11, w12, w13, w14, w15, w16, w17]))] sz 1 (fun _ => [])) 1 6 (va_A [(q1, .inr (11, [w7, w8, w9, w10, w11, w12, w13, w14, w15, w16, w17]))] sz) := by
  refine ofH (by decide) (Nat.le_of_ble_eq_true rfl) rfl ?_
  intro p e s m args below meth c A ls hAe hsz hx hb hml hr hlocks hin hown hE hP hD hA hS hl htb hz
  have hown : s.vm.findClass RL = some m.cls := hown
  refine lv_aload_n hx hb dL_setPriority_0 rfl (lv_at hl 3 rfl) ?_
  refine lv_iconst (v := 0) hx hb dL_setPriority_1 (by decide) ?_
  refine lv_aload_n hx hb dL_setPriority_2 rfl (lv_at hl 0 rfl) ?_
  refine lv_iload_n hx hb dL_setPriority_3 rfl (lv_at hl 1 rfl) ?_
  refine lv_iload_n hx hb dL_setPriority_4 rfl (lv_at hl 2 rfl) ?_
  refine gx_i (wr := [(q1, .inr (11, [w7, w8, w9, w10, w11, w12, w13, w14, w15, w16, w17]))]) (rVx (rest := [.int 0, .ref q4]) hx hb hml hown hE hP hD hS hA hz 0 rfl rfl (c2149_X9_setPriority l g hlx q1 x2 x3 h5 h6 s.heap.size) (kV_X9_setPriority hE (e1006 hE) rfl rfl ⟨(Nat.le_of_ble_eq_true rfl), (Nat.le_of_ble_eq_true rfl)⟩) [] rfl (by decide) rfl hl.1 rfl (lv_room (Nat.le_of_ble_eq_true rfl)) dL_setPriority_5 ⟨(Nat.le_of_ble_eq_true rfl), (Nat.le_of_ble_eq_true rfl)⟩) hP hD hS hA [] [0] rfl rfl (by decide) (by decide) (fun ce9 q9 H locs hP hD hS hq1 hq2 hq3 => ?_)
  have hP : va_P g.1 vwCl [(q1, .inr (11, [w7, w8, w9, w10, w11, w12, w13, w14, w15, w16, w17]))] H := hP
  have hD : va_D A [(q1, .inr (11, [w7, w8, w9, w10, w11, w12, w13, w14, w15, w16, w17]))] := hD
  refine x_catch (name := "java/lang/IndexOutOfBoundsException") (hh := [(0, 10, 13, 13), (0, 10, 17, 15)]) (tgt := 13) hown htb [] ⟨0, 10, 13, 13⟩ [⟨0, 10, 17, 15⟩] rfl (fun _ h => nomatch h) rfl (by decide) (e532 hE) (e625 hE) hq1 hq2 hq3 rfl ?_
  refine lv_astore (lv' := [(4, .ref q9), (0, .ref q1), (1, .int x2), (2, .int x3), (3, .ref q4)]) hx hb dL_setPriority_13 hl (by decide) rfl (fun ls hl => ?_)
  refine lv_iconst (v := 1) hx hb dL_setPriority_15 (by decide) ?_
  exact x_zret hx hb hr rfl rfl hlocks hP hD hS hAe hsz (Nat.le_of_ble_eq_true rfl) (Nat.le_of_ble_eq_true rfl) (fun _ => 0) [] (by decide) rfl dL_setPriority_16

set_option maxHeartbeats 4000000 in
set_option maxRecDepth 100000 in
theorem c2151_X10_setPriority (l : Launch) (g : gG) (q1 : Nat) (x2 x3 : Int32) (w4 w5 w6 w7 w8 w9 w10 w11 w12 w13 w14 w15 w16 w17 w18 w19 w20 w21 w22 w23 w24 w25 w26 w27 w28 w29 w30 w31 w32 w33 w34 w35 w36 w37 w38 w39 w40 : Value) (h41 : (0 : Int32) ≤ x2) (h42 : (3 : Int32) < x2) (sz : Nat) : Met l yX10_setPriority [Cond.code yX10_setPriority cX10_setPriority 3 (some .int)] ({ frames := 2, cells := 0, slots := 0, locals := 42 } : Room) (va_Pc [.ref q1, .int x2, .int x3] (PX g sz [(q1, .inr (12, [w4, w5, w6, w7, w8, w9, w10, w11, w12, w13, w14, w15, w16, w17, w18, w19, w20, w21, w22, w23, w24, w25, w26, w27, w28, w29, w30, w31, w32, w33, w34, w35, w36, w37, w38, w39, w40]))])) (QI g [(q1, .inr (12, [w4, w5, w6, w7, w8, w9, w10, w11, w12, w13, w14, w15, w16, w17, w18, w19, w20, w21, w22, w23, w24, w25, w26, w27, w28, w29, w30, w31, w32, w33, w34, w35, w36, w37, w38, w39, w40]))] sz 0 (fun _ => [(q1, .inr (12, [w4, w5, w6, w7, w8, w9, .int 1, w11, w12, w13, w14, w15, w16, w17, w18, w19, w20, w21, w22, w23, w24, w25, w26, w27, w28, w29, w30, w31, w32, w33, w34, w35, w36, w37, w38, w39, w40]))])) 0 0 (va_A [(q1, .inr (12, [w4, w5, w6, w7, w8, w9, w10, w11, w12, w13, w14, w15, w16, w17, w18, w19, w20, w21, w22, w23, w24, w25, w26, w27, w28, w29, w30, w31, w32, w33, w34, w35, w36, w37, w38, w39, w40]))] sz) := by
  refine ofN (by decide) (Nat.le_of_ble_eq_true rfl) rfl ?_
  intro p e s m args below meth c A ls hAe hsz hx hb hml hr hlocks hin hown hE hP hD hA hS hl
  have hown : s.vm.findClass RX10 = some m.cls := hown
  refine lv_aload_n hx hb dX10_setPriority_0 rfl (lv_at hl 0 rfl) ?_
  refine lv_iconst (v := 1) hx hb dX10_setPriority_1 (by decide) ?_
  refine pf_RX10_86 (ws' := [(q1, .inr (12, [w4, w5, w6, w7, w8, w9, .int 1, w11, w12, w13, w14, w15, w16, w17, w18, w19, w20, w21, w22, w23, w24, w25, w26, w27, w28, w29, w30, w31, w32, w33, w34, w35, w36, w37, w38, w39, w40]))]) hx hb hown hE hP hD hS 0 rfl rfl rfl (Nat.le_of_ble_eq_true rfl) dX10_setPriority_2 rfl (fun H locs hP hD hS => ?_)
  refine lv_iload_n hx hb dX10_setPriority_5 rfl (lv_at hl 1 rfl) ?_
  refine g0_i (rS (rest := []) hx hb hml hown hE hP hD (c2096_X10_isInstrument l g x2 h41 h42 H.size) (kS_X10_isInstrument hE (e1645 hE) rfl rfl ⟨(Nat.le_of_ble_eq_true rfl), (Nat.le_of_ble_eq_true rfl)⟩) [] rfl (by decide) rfl hl.1 rfl (lv_room (Nat.le_of_ble_eq_true rfl)) dX10_setPriority_6 ⟨(Nat.le_of_ble_eq_true rfl), (Nat.le_of_ble_eq_true rfl)⟩) hP hD hS hA (fun u9 H locs hP hS => ?_)
  refine lv_if_eq (tgt := 33) hx hb dX10_setPriority_9 (by decide) (fun _ => ?_) (fun h => absurd (by decide) h)
  refine lv_iconst (v := 0) hx hb dX10_setPriority_33 (by decide) ?_
  exact x_zret hx hb hr rfl rfl hlocks hP hD hS hAe hsz (Nat.le_of_ble_eq_true rfl) (Nat.le_of_ble_eq_true rfl) (fun _ => 0) [0] (by decide) rfl dX10_setPriority_34

set_option maxHeartbeats 4000000 in
set_option maxRecDepth 100000 in
theorem c2152_X9_instrument (l : Launch) (g : gG) (hlx : l.stackTraces = false) (q1 : Nat) (x2 x3 : Int32) (h4 : x2 < 0) (sz : Nat) : vx_Met l yX9_instrument [Cond.code yX9_instrument cX9_instrument 4 (some .int)] ({ frames := 8, cells := 1, slots := 6, locals := 141 } : Room) (va_Pc [.ref q1, .int x2, .int x3] (PZ g sz [])) NI (XW g [] sz "java/lang/IndexOutOfBoundsException" []) 1 6 (va_A [] sz) := by
  refine ofX (by decide) (Nat.le_of_ble_eq_true rfl) rfl ?_
  intro p e s m args below meth c A ls hAe hsz hx hb hml hr hlocks hin hown hE hP hD hA hS hl hex hz
  have hown : s.vm.findClass RX9 = some m.cls := hown
  refine lv_iload_n hx hb dX9_instrument_0 rfl (lv_at hl 1 rfl) ?_
  refine gx_v (wr := []) (rSx (rest := []) hx hb hml hown hE hP hD hS hA hz (c1836_X9_requireInstrument l g hlx x2 h4 s.heap.size) (kS_X9_requireInstrument hE (e991 hE) rfl rfl ⟨(Nat.le_of_ble_eq_true rfl), (Nat.le_of_ble_eq_true rfl)⟩) [] rfl (by decide) rfl hl.1 rfl (lv_room (Nat.le_of_ble_eq_true rfl)) dX9_instrument_1 ⟨(Nat.le_of_ble_eq_true rfl), (Nat.le_of_ble_eq_true rfl)⟩) hP hD hS hA [] [] rfl rfl (by decide) (by decide) (fun ce9 q9 H locs hP hD hS hq1 hq2 hq3 => ?_)
  exact x_out hex hlocks hq1 hq2 hq3 hP hD hS hAe hsz (Nat.le_of_ble_eq_true rfl) (Nat.le_of_ble_eq_true rfl) [] (by decide) rfl

set_option maxHeartbeats 4000000 in
set_option maxRecDepth 100000 in
theorem c2153_L_instrument (l : Launch) (g : gG) (hlx : l.stackTraces = false) (q1 q4 : Nat) (x2 x3 : Int32) (w6 w7 w8 w9 w10 w11 w12 w13 w14 w15 w16 : Value) (h5 : x2 < 0) (sz : Nat) : Met l yL_instrument [Cond.codeWith yL_instrument cL_instrument 5 (some .int) [(0, 10, 13, 13), (0, 10, 17, 15)]] ({ frames := 9, cells := 1, slots := 6, locals := 164 } : Room) (va_Pc [.ref q1, .int x2, .int x3, .ref q4] (PZ g sz [(q1, .inr (11, [w6, w7, w8, w9, w10, w11, w12, w13, w14, w15, w16]))])) (QI g [(q1, .inr (11, [w6, w7, w8, w9, w10, w11, w12, w13, w14, w15, w16]))] sz 1 (fun _ => [])) 1 6 (va_A [(q1, .inr (11, [w6, w7, w8, w9, w10, w11, w12, w13, w14, w15, w16]))] sz) := by
  refine ofH (by decide) (Nat.le_of_ble_eq_true rfl) rfl ?_
  intro p e s m args below meth c A ls hAe hsz hx hb hml hr hlocks hin hown hE hP hD hA hS hl htb hz
  have hown : s.vm.findClass RL = some m.cls := hown
  refine lv_aload_n hx hb dL_instrument_0 rfl (lv_at hl 3 rfl) ?_
  refine lv_iconst (v := 0) hx hb dL_instrument_1 (by decide) ?_
  refine lv_aload_n hx hb dL_instrument_2 rfl (lv_at hl 0 rfl) ?_
  refine lv_iload_n hx hb dL_instrument_3 rfl (lv_at hl 1 rfl) ?_
  refine lv_iload_n hx hb dL_instrument_4 rfl (lv_at hl 2 rfl) ?_
  refine gx_i (wr := [(q1, .inr (11, [w6, w7, w8, w9, w10, w11, w12, w13, w14, w15, w16]))]) (rVx (rest := [.int 0, .ref q4]) hx hb hml hown hE hP hD hS hA hz 0 rfl rfl (c2152_X9_instrument l g hlx q1 x2 x3 h5 s.heap.size) (kV_X9_instrument hE (e1015 hE) rfl rfl ⟨(Nat.le_of_ble_eq_true rfl), (Nat.le_of_ble_eq_true rfl)⟩) [] rfl (by decide) rfl hl.1 rfl (lv_room (Nat.le_of_ble_eq_true rfl)) dL_instrument_5 ⟨(Nat.le_of_ble_eq_true rfl), (Nat.le_of_ble_eq_true rfl)⟩) hP hD hS hA [] [0] rfl rfl (by decide) (by decide) (fun ce9 q9 H locs hP hD hS hq1 hq2 hq3 => ?_)
  have hP : va_P g.1 vwCl [(q1, .inr (11, [w6, w7, w8, w9, w10, w11, w12, w13, w14, w15, w16]))] H := hP
  have hD : va_D A [(q1, .inr (11, [w6, w7, w8, w9, w10, w11, w12, w13, w14, w15, w16]))] := hD
  refine x_catch (name := "java/lang/IndexOutOfBoundsException") (hh := [(0, 10, 13, 13), (0, 10, 17, 15)]) (tgt := 13) hown htb [] ⟨0, 10, 13, 13⟩ [⟨0, 10, 17, 15⟩] rfl (fun _ h => nomatch h) rfl (by decide) (e532 hE) (e625 hE) hq1 hq2 hq3 rfl ?_
  refine lv_astore (lv' := [(4, .ref q9), (0, .ref q1), (1, .int x2), (2, .int x3), (3, .ref q4)]) hx hb dL_instrument_13 hl (by decide) rfl (fun ls hl => ?_)
  refine lv_iconst (v := 1) hx hb dL_instrument_15 (by decide) ?_
  exact x_zret hx hb hr rfl rfl hlocks hP hD hS hAe hsz (Nat.le_of_ble_eq_true rfl) (Nat.le_of_ble_eq_true rfl) (fun _ => 0) [] (by decide) rfl dL_instrument_16

set_option maxHeartbeats 4000000 in
set_option maxRecDepth 100000 in
theorem c2154_X10_instrument (l : Launch) (g : gG) (q1 : Nat) (x2 x3 : Int32) (w5 w6 w7 w8 w9 w10 w11 w12 w13 w14 w15 w16 w17 w18 w19 w20 w21 w22 w23 w24 w25 w26 w27 w28 w29 w30 w31 w32 w33 w34 w35 w36 w37 w38 w39 w40 w41 : Value) (h4 : x2 < 0) (sz : Nat) : Met l yX10_instrument [Cond.code yX10_instrument cX10_instrument 5 (some .int)] ({ frames := 2, cells := 0, slots := 0, locals := 42 } : Room) (va_Pc [.ref q1, .int x2, .int x3] (PX g sz [(q1, .inr (12, [w5, w6, w7, w8, w9, w10, w11, w12, w13, w14, w15, w16, w17, w18, w19, w20, w21, w22, w23, w24, w25, w26, w27, w28, w29, w30, w31, w32, w33, w34, w35, w36, w37, w38, w39, w40, w41]))])) (QI g [(q1, .inr (12, [w5, w6, w7, w8, w9, w10, w11, w12, w13, w14, w15, w16, w17, w18, w19, w20, w21, w22, w23, w24, w25, w26, w27, w28, w29, w30, w31, w32, w33, w34, w35, w36, w37, w38, w39, w40, w41]))] sz 0 (fun _ => [(q1, .inr (12, [w5, w6, w7, w8, w9, w10, .int 1, w12, w13, w14, w15, w16, w17, w18, w19, w20, w21, w22, w23, w24, w25, w26, w27, w28, w29, w30, w31, w32, w33, w34, w35, w36, w37, w38, w39, w40, w41]))])) 0 0 (va_A [(q1, .inr (12, [w5, w6, w7, w8, w9, w10, w11, w12, w13, w14, w15, w16, w17, w18, w19, w20, w21, w22, w23, w24, w25, w26, w27, w28, w29, w30, w31, w32, w33, w34, w35, w36, w37, w38, w39, w40, w41]))] sz) := by
  refine ofN (by decide) (Nat.le_of_ble_eq_true rfl) rfl ?_
  intro p e s m args below meth c A ls hAe hsz hx hb hml hr hlocks hin hown hE hP hD hA hS hl
  have hown : s.vm.findClass RX10 = some m.cls := hown
  refine lv_aload_n hx hb dX10_instrument_0 rfl (lv_at hl 0 rfl) ?_
  refine lv_iload_n hx hb dX10_instrument_1 rfl (lv_at hl 1 rfl) ?_
  refine g0_i (rS (rest := [.ref q1]) hx hb hml hown hE hP hD (c1839_X10_isInstrument l g x2 h4 s.heap.size) (kS_X10_isInstrument hE (e1645 hE) rfl rfl ⟨(Nat.le_of_ble_eq_true rfl), (Nat.le_of_ble_eq_true rfl)⟩) [] rfl (by decide) rfl hl.1 rfl (lv_room (Nat.le_of_ble_eq_true rfl)) dX10_instrument_2 ⟨(Nat.le_of_ble_eq_true rfl), (Nat.le_of_ble_eq_true rfl)⟩) hP hD hS hA (fun u9 H locs hP hS => ?_)
  refine lv_if_ne (tgt := 12) hx hb dX10_instrument_5 (by decide) (fun h => absurd h (by decide)) (fun _ => ?_)
  refine lv_iconst (v := 1) hx hb dX10_instrument_8 (by decide) ?_
  refine lv_goto (tgt := 26) hx hb dX10_instrument_9 (by decide) ?_
  refine pf_RX10_86 (ws' := [(q1, .inr (12, [w5, w6, w7, w8, w9, w10, .int 1, w12, w13, w14, w15, w16, w17, w18, w19, w20, w21, w22, w23, w24, w25, w26, w27, w28, w29, w30, w31, w32, w33, w34, w35, w36, w37, w38, w39, w40, w41]))]) hx hb hown hE hP hD hS 0 rfl rfl rfl (Nat.le_of_ble_eq_true rfl) dX10_instrument_26 rfl (fun H locs hP hD hS => ?_)
  refine lv_aload_n hx hb dX10_instrument_29 rfl (lv_at hl 0 rfl) ?_
  refine gf_RX10_86 hx hb hown hE hP 0 rfl rfl dX10_instrument_30 ?_
  refine lv_if_le (tgt := 38) hx hb dX10_instrument_33 (by decide) (fun h => absurd h (by decide)) (fun _ => ?_)
  refine lv_iconst (v := 0) hx hb dX10_instrument_36 (by decide) ?_
  exact x_zret hx hb hr rfl rfl hlocks hP hD hS hAe hsz (Nat.le_of_ble_eq_true rfl) (Nat.le_of_ble_eq_true rfl) (fun _ => 0) [0] (by decide) rfl dX10_instrument_37

set_option maxHeartbeats 4000000 in
set_option maxRecDepth 100000 in
theorem c2155_X9_instrument (l : Launch) (g : gG) (hlx : l.stackTraces = false) (q1 : Nat) (x2 x3 : Int32) (h4 : (0 : Int32) ≤ x2) (h5 : x2 < 4) (h6 : x3 < 0) (sz : Nat) : vx_Met l yX9_instrument [Cond.code yX9_instrument cX9_instrument 4 (some .int)] ({ frames := 7, cells := 1, slots := 6, locals := 122 } : Room) (va_Pc [.ref q1, .int x2, .int x3] (PZ g sz [])) NI (XW g [] sz "java/lang/IllegalArgumentException" []) 1 6 (va_A [] sz) := by
  refine ofX (by decide) (Nat.le_of_ble_eq_true rfl) rfl ?_
  intro p e s m args below meth c A ls hAe hsz hx hb hml hr hlocks hin hown hE hP hD hA hS hl hex hz
  have hown : s.vm.findClass RX9 = some m.cls := hown
  refine lv_iload_n hx hb dX9_instrument_0 rfl (lv_at hl 1 rfl) ?_
  refine g0_v (rS (rest := []) hx hb hml hown hE hP hD (c1854_X9_requireInstrument l g x2 h4 h5 s.heap.size) (kS_X9_requireInstrument hE (e991 hE) rfl rfl ⟨(Nat.le_of_ble_eq_true rfl), (Nat.le_of_ble_eq_true rfl)⟩) [] rfl (by decide) rfl hl.1 rfl (lv_room (Nat.le_of_ble_eq_true rfl)) dX9_instrument_1 ⟨(Nat.le_of_ble_eq_true rfl), (Nat.le_of_ble_eq_true rfl)⟩) hP hD hS hA (fun u9 H locs hP hS => ?_)
  refine lv_iload_n hx hb dX9_instrument_4 rfl (lv_at hl 2 rfl) ?_
  refine lv_iconst (v := 0) hx hb dX9_instrument_5 (by decide) ?_
  refine lv_iconst (v := 5) hx hb dX9_instrument_6 (by decide) ?_
  refine gx_v (wr := []) (rSx (rest := []) hx hb hml hown hE hP hD hS hA hz (c639_X9_requireRange l g hlx x3 5 h6 H.size) (kS_X9_requireRange hE (e636 hE) rfl rfl ⟨(Nat.le_of_ble_eq_true rfl), (Nat.le_of_ble_eq_true rfl)⟩) [] rfl (by decide) rfl hl.1 rfl (lv_room (Nat.le_of_ble_eq_true rfl)) dX9_instrument_7 ⟨(Nat.le_of_ble_eq_true rfl), (Nat.le_of_ble_eq_true rfl)⟩) hP hD hS hA [] [] rfl rfl (by decide) (by decide) (fun ce9 q9 H locs hP hD hS hq1 hq2 hq3 => ?_)
  exact x_out hex hlocks hq1 hq2 hq3 hP hD hS hAe hsz (Nat.le_of_ble_eq_true rfl) (Nat.le_of_ble_eq_true rfl) [] (by decide) rfl

set_option maxHeartbeats 4000000 in
set_option maxRecDepth 100000 in
theorem c2156_L_instrument (l : Launch) (g : gG) (hlx : l.stackTraces = false) (q1 q4 : Nat) (x2 x3 : Int32) (w8 w9 w10 w11 w12 w13 w14 w15 w16 w17 w18 : Value) (h5 : (0 : Int32) ≤ x2) (h6 : x2 < 4) (h7 : x3 < 0) (sz : Nat) : Met l yL_instrument [Cond.codeWith yL_instrument cL_instrument 5 (some .int) [(0, 10, 13, 13), (0, 10, 17, 15)]] ({ frames := 8, cells := 1, slots := 6, locals := 145 } : Room) (va_Pc [.ref q1, .int x2, .int x3, .ref q4] (PZ g sz [(q1, .inr (11, [w8, w9, w10, w11, w12, w13, w14, w15, w16, w17, w18]))])) (QI g [(q1, .inr (11, [w8, w9, w10, w11, w12, w13, w14, w15, w16, w17, w18]))] sz 2 (fun _ => [])) 1 6 (va_A [(q1, .inr (11, [w8, w9, w10, w11, w12, w13, w14, w15, w16, w17, w18]))] sz) := by
  refine ofH (by decide) (Nat.le_of_ble_eq_true rfl) rfl ?_
  intro p e s m args below meth c A ls hAe hsz hx hb hml hr hlocks hin hown hE hP hD hA hS hl htb hz
  have hown : s.vm.findClass RL = some m.cls := hown
  refine lv_aload_n hx hb dL_instrument_0 rfl (lv_at hl 3 rfl) ?_
  refine lv_iconst (v := 0) hx hb dL_instrument_1 (by decide) ?_
  refine lv_aload_n hx hb dL_instrument_2 rfl (lv_at hl 0 rfl) ?_
  refine lv_iload_n hx hb dL_instrument_3 rfl (lv_at hl 1 rfl) ?_
  refine lv_iload_n hx hb dL_instrument_4 rfl (lv_at hl 2 rfl) ?_
  refine gx_i (wr := [(q1, .inr (11, [w8, w9, w10, w11, w12, w13, w14, w15, w16, w17, w18]))]) (rVx (rest := [.int 0, .ref q4]) hx hb hml hown hE hP hD hS hA hz 0 rfl rfl (c2155_X9_instrument l g hlx q1 x2 x3 h5 h6 h7 s.heap.size) (kV_X9_instrument hE (e1015 hE) rfl rfl ⟨(Nat.le_of_ble_eq_true rfl), (Nat.le_of_ble_eq_true rfl)⟩) [] rfl (by decide) rfl hl.1 rfl (lv_room (Nat.le_of_ble_eq_true rfl)) dL_instrument_5 ⟨(Nat.le_of_ble_eq_true rfl), (Nat.le_of_ble_eq_true rfl)⟩) hP hD hS hA [] [0] rfl rfl (by decide) (by decide) (fun ce9 q9 H locs hP hD hS hq1 hq2 hq3 => ?_)
  have hP : va_P g.1 vwCl [(q1, .inr (11, [w8, w9, w10, w11, w12, w13, w14, w15, w16, w17, w18]))] H := hP
  have hD : va_D A [(q1, .inr (11, [w8, w9, w10, w11, w12, w13, w14, w15, w16, w17, w18]))] := hD
  refine x_catch (name := "java/lang/IllegalArgumentException") (hh := [(0, 10, 13, 13), (0, 10, 17, 15)]) (tgt := 17) hown htb [⟨0, 10, 13, 13⟩] ⟨0, 10, 17, 15⟩ [] rfl (fun z hz => by
    rcases List.mem_cons.mp hz with rfl | hz
    · exact Or.inr ⟨by decide, "java/lang/IndexOutOfBoundsException", e532 hE, hE.2.2.2.2.2 ("java/lang/IllegalArgumentException", "java/lang/IndexOutOfBoundsException") (by decide +kernel)⟩
    exact nomatch hz) rfl (by decide) (e611 hE) (e641 hE) hq1 hq2 hq3 rfl ?_
  refine lv_astore (lv' := [(4, .ref q9), (0, .ref q1), (1, .int x2), (2, .int x3), (3, .ref q4)]) hx hb dL_instrument_17 hl (by decide) rfl (fun ls hl => ?_)
  refine lv_iconst (v := 2) hx hb dL_instrument_19 (by decide) ?_
  exact x_zret hx hb hr rfl rfl hlocks hP hD hS hAe hsz (Nat.le_of_ble_eq_true rfl) (Nat.le_of_ble_eq_true rfl) (fun _ => 0) [] (by decide) rfl dL_instrument_20

set_option maxHeartbeats 4000000 in
set_option maxRecDepth 100000 in
theorem c2157_X10_instrument (l : Launch) (g : gG) (q1 : Nat) (x2 x3 : Int32) (w7 w8 w9 w10 w11 w12 w13 w14 w15 w16 w17 w18 w19 w20 w21 w22 w23 w24 w25 w26 w27 w28 w29 w30 w31 w32 w33 w34 w35 w36 w37 w38 w39 w40 w41 w42 w43 : Value) (h4 : (0 : Int32) ≤ x2) (h5 : x2 ≤ 3) (h6 : x3 < 0) (sz : Nat) : Met l yX10_instrument [Cond.code yX10_instrument cX10_instrument 5 (some .int)] ({ frames := 2, cells := 0, slots := 0, locals := 42 } : Room) (va_Pc [.ref q1, .int x2, .int x3] (PX g sz [(q1, .inr (12, [w7, w8, w9, w10, w11, w12, w13, w14, w15, w16, w17, w18, w19, w20, w21, w22, w23, w24, w25, w26, w27, w28, w29, w30, w31, w32, w33, w34, w35, w36, w37, w38, w39, w40, w41, w42, w43]))])) (QI g [(q1, .inr (12, [w7, w8, w9, w10, w11, w12, w13, w14, w15, w16, w17, w18, w19, w20, w21, w22, w23, w24, w25, w26, w27, w28, w29, w30, w31, w32, w33, w34, w35, w36, w37, w38, w39, w40, w41, w42, w43]))] sz 0 (fun _ => [(q1, .inr (12, [w7, w8, w9, w10, w11, w12, .int 2, w14, w15, w16, w17, w18, w19, w20, w21, w22, w23, w24, w25, w26, w27, w28, w29, w30, w31, w32, w33, w34, w35, w36, w37, w38, w39, w40, w41, w42, w43]))])) 0 0 (va_A [(q1, .inr (12, [w7, w8, w9, w10, w11, w12, w13, w14, w15, w16, w17, w18, w19, w20, w21, w22, w23, w24, w25, w26, w27, w28, w29, w30, w31, w32, w33, w34, w35, w36, w37, w38, w39, w40, w41, w42, w43]))] sz) := by
  refine ofN (by decide) (Nat.le_of_ble_eq_true rfl) rfl ?_
  intro p e s m args below meth c A ls hAe hsz hx hb hml hr hlocks hin hown hE hP hD hA hS hl
  have hown : s.vm.findClass RX10 = some m.cls := hown
  refine lv_aload_n hx hb dX10_instrument_0 rfl (lv_at hl 0 rfl) ?_
  refine lv_iload_n hx hb dX10_instrument_1 rfl (lv_at hl 1 rfl) ?_
  refine g0_i (rS (rest := [.ref q1]) hx hb hml hown hE hP hD (c1857_X10_isInstrument l g x2 h4 h5 s.heap.size) (kS_X10_isInstrument hE (e1645 hE) rfl rfl ⟨(Nat.le_of_ble_eq_true rfl), (Nat.le_of_ble_eq_true rfl)⟩) [] rfl (by decide) rfl hl.1 rfl (lv_room (Nat.le_of_ble_eq_true rfl)) dX10_instrument_2 ⟨(Nat.le_of_ble_eq_true rfl), (Nat.le_of_ble_eq_true rfl)⟩) hP hD hS hA (fun u9 H locs hP hS => ?_)
  refine lv_if_ne (tgt := 12) hx hb dX10_instrument_5 (by decide) (fun _ => ?_) (fun h => absurd h (by decide))
  refine lv_iload_n hx hb dX10_instrument_12 rfl (lv_at hl 2 rfl) ?_
  refine lv_iconst (v := 0) hx hb dX10_instrument_13 (by decide) ?_
  refine lv_iconst (v := 5) hx hb dX10_instrument_14 (by decide) ?_
  refine g0_i (rS (rest := [.ref q1]) hx hb hml hown hE hP hD (c642_X10_in l g x3 5 h6 H.size) (kS_X10_in hE (e1431 hE) rfl rfl ⟨(Nat.le_of_ble_eq_true rfl), (Nat.le_of_ble_eq_true rfl)⟩) [] rfl (by decide) rfl hl.1 rfl (lv_room (Nat.le_of_ble_eq_true rfl)) dX10_instrument_15 ⟨(Nat.le_of_ble_eq_true rfl), (Nat.le_of_ble_eq_true rfl)⟩) hP hD hS hA (fun u9 H locs hP hS => ?_)
  refine lv_if_ne (tgt := 25) hx hb dX10_instrument_18 (by decide) (fun h => absurd h (by decide)) (fun _ => ?_)
  refine lv_iconst (v := 2) hx hb dX10_instrument_21 (by decide) ?_
  refine lv_goto (tgt := 26) hx hb dX10_instrument_22 (by decide) ?_
  refine pf_RX10_86 (ws' := [(q1, .inr (12, [w7, w8, w9, w10, w11, w12, .int 2, w14, w15, w16, w17, w18, w19, w20, w21, w22, w23, w24, w25, w26, w27, w28, w29, w30, w31, w32, w33, w34, w35, w36, w37, w38, w39, w40, w41, w42, w43]))]) hx hb hown hE hP hD hS 0 rfl rfl rfl (Nat.le_of_ble_eq_true rfl) dX10_instrument_26 rfl (fun H locs hP hD hS => ?_)
  refine lv_aload_n hx hb dX10_instrument_29 rfl (lv_at hl 0 rfl) ?_
  refine gf_RX10_86 hx hb hown hE hP 0 rfl rfl dX10_instrument_30 ?_
  refine lv_if_le (tgt := 38) hx hb dX10_instrument_33 (by decide) (fun h => absurd h (by decide)) (fun _ => ?_)
  refine lv_iconst (v := 0) hx hb dX10_instrument_36 (by decide) ?_
  exact x_zret hx hb hr rfl rfl hlocks hP hD hS hAe hsz (Nat.le_of_ble_eq_true rfl) (Nat.le_of_ble_eq_true rfl) (fun _ => 0) [0] (by decide) rfl dX10_instrument_37

set_option maxHeartbeats 4000000 in
set_option maxRecDepth 100000 in
theorem c2158_X9_instrument (l : Launch) (g : gG) (q1 q13 q17 q20 q28 : Nat) (w3 w4 w5 w6 w7 w8 w9 w10 w11 w12 w16 w21 w22 w23 w25 w26 w27 : Value) (f18 : Nat → Option Nat) (f29 : Nat → Int32) (hf19 : f18 0 = some q20) (hf30 : f29 0 = 0) (sz : Nat) : Met l yX9_instrument [Cond.code yX9_instrument cX9_instrument 4 (some .int)] ({ frames := 2, cells := 0, slots := 0, locals := 42 } : Room) (va_Pc [.ref q1, .int 0, .int 0] (PX g sz [(q28, .inl (g.2 0, 20, .inl f29)), (q20, .inr (8, [w21, w22, w23, .ref q28, w25, w26, w27])), (q17, .inl (g.2 3, 10, .inr (.inr (.inr (.inr f18))))), (q13, .inr (10, [.ref q17, .int 0, w16])), (q1, .inr (11, [.ref q13, w3, w4, w5, w6, w7, w8, w9, w10, w11, w12]))])) (QI g [(q28, .inl (g.2 0, 20, .inl f29)), (q20, .inr (8, [w21, w22, w23, .ref q28, w25, w26, w27])), (q17, .inl (g.2 3, 10, .inr (.inr (.inr (.inr f18))))), (q13, .inr (10, [.ref q17, .int 0, w16])), (q1, .inr (11, [.ref q13, w3, w4, w5, w6, w7, w8, w9, w10, w11, w12]))] sz 0 (fun _ => [(q1, .inr (11, [.ref q13, w3, w4, w5, w6, w7, w8, w9, w10, w11, w12])), (q17, .inl (g.2 3, 10, .inr (.inr (.inr (.inr f18))))), (q13, .inr (10, [.ref q17, .int 0, w16])), (q28, .inl (g.2 0, 20, .inl f29)), (q20, .inr (8, [w21, w22, w23, .ref q28, w25, w26, w27]))])) 0 0 (va_A [(q28, .inl (g.2 0, 20, .inl f29)), (q20, .inr (8, [w21, w22, w23, .ref q28, w25, w26, w27])), (q17, .inl (g.2 3, 10, .inr (.inr (.inr (.inr f18))))), (q13, .inr (10, [.ref q17, .int 0, w16])), (q1, .inr (11, [.ref q13, w3, w4, w5, w6, w7, w8, w9, w10, w11, w12]))] sz) := by
  refine ofN (by decide) (Nat.le_of_ble_eq_true rfl) rfl ?_
  intro p e s m args below meth c A ls hAe hsz hx hb hml hr hlocks hin hown hE hP hD hA hS hl
  have hown : s.vm.findClass RX9 = some m.cls := hown
  refine lv_iload_n hx hb dX9_instrument_0 rfl (lv_at hl 1 rfl) ?_
  refine g0_v (rS (rest := []) hx hb hml hown hE hP hD (c1854_X9_requireInstrument l g 0 (by decide) (by decide) s.heap.size) (kS_X9_requireInstrument hE (e991 hE) rfl rfl ⟨(Nat.le_of_ble_eq_true rfl), (Nat.le_of_ble_eq_true rfl)⟩) [] rfl (by decide) rfl hl.1 rfl (lv_room (Nat.le_of_ble_eq_true rfl)) dX9_instrument_1 ⟨(Nat.le_of_ble_eq_true rfl), (Nat.le_of_ble_eq_true rfl)⟩) hP hD hS hA (fun u9 H locs hP hS => ?_)
  refine lv_iload_n hx hb dX9_instrument_4 rfl (lv_at hl 2 rfl) ?_
  refine lv_iconst (v := 0) hx hb dX9_instrument_5 (by decide) ?_
  refine lv_iconst (v := 5) hx hb dX9_instrument_6 (by decide) ?_
  refine g0_v (rS (rest := []) hx hb hml hown hE hP hD (c968_X9_requireRange l g 0 (by decide) (by decide) H.size) (kS_X9_requireRange hE (e636 hE) rfl rfl ⟨(Nat.le_of_ble_eq_true rfl), (Nat.le_of_ble_eq_true rfl)⟩) [] rfl (by decide) rfl hl.1 rfl (lv_room (Nat.le_of_ble_eq_true rfl)) dX9_instrument_7 ⟨(Nat.le_of_ble_eq_true rfl), (Nat.le_of_ble_eq_true rfl)⟩) hP hD hS hA (fun u9 H locs hP hS => ?_)
  refine lv_aload_n hx hb dX9_instrument_10 rfl (lv_at hl 0 rfl) ?_
  refine gf_RX9_12 hx hb hown hE hP 4 rfl rfl dX9_instrument_11 ?_
  refine g_r (wr := [(q28, .inl (g.2 0, 20, .inl f29)), (q20, .inr (8, [w21, w22, w23, .ref q28, w25, w26, w27])), (q1, .inr (11, [.ref q13, w3, w4, w5, w6, w7, w8, w9, w10, w11, w12]))]) (rV (rest := []) hx hb hml hown hE hP hD 3 rfl rfl (c71_X8_current l g q13 q17 q20 w16 f18 (hf19) H.size) (kV_X8_current hE (e290 hE) rfl rfl ⟨(Nat.le_of_ble_eq_true rfl), (Nat.le_of_ble_eq_true rfl)⟩) [2, 3] rfl (by decide) rfl hl.1 rfl (lv_room (Nat.le_of_ble_eq_true rfl)) dX9_instrument_14 ⟨(Nat.le_of_ble_eq_true rfl), (Nat.le_of_ble_eq_true rfl)⟩) hP hD hS hA [2, 3] [0, 1, 4] rfl rfl (by decide) (by decide) (fun u3 H locs hP hD hS => ?_)
  have hP : va_P g.1 vwCl [(q28, .inl (g.2 0, 20, .inl f29)), (q20, .inr (8, [w21, w22, w23, .ref q28, w25, w26, w27])), (q1, .inr (11, [.ref q13, w3, w4, w5, w6, w7, w8, w9, w10, w11, w12])), (q17, .inl (g.2 3, 10, .inr (.inr (.inr (.inr f18))))), (q13, .inr (10, [.ref q17, .int 0, w16]))] H := hP
  have hD : va_D A [(q28, .inl (g.2 0, 20, .inl f29)), (q20, .inr (8, [w21, w22, w23, .ref q28, w25, w26, w27])), (q1, .inr (11, [.ref q13, w3, w4, w5, w6, w7, w8, w9, w10, w11, w12])), (q17, .inl (g.2 3, 10, .inr (.inr (.inr (.inr f18))))), (q13, .inr (10, [.ref q17, .int 0, w16]))] := hD
  refine lv_astore_n (lv' := [(3, .ref q20), (0, .ref q1), (1, .int 0), (2, .int 0)]) hx hb dX9_instrument_17 rfl hl (by decide) rfl (fun ls hl => ?_)
  refine lv_iload_n hx hb dX9_instrument_18 rfl (lv_at hl 3 rfl) ?_
  refine lv_iconst (v := 5) hx hb dX9_instrument_19 (by decide) ?_
  refine lv_icmp_ne (tgt := 29) hx hb dX9_instrument_20 (by decide) (fun _ => ?_) (fun h => absurd h (by decide))
  refine lv_aload_n hx hb dX9_instrument_29 rfl (lv_at hl 0 rfl) ?_
  refine lv_iload_n hx hb dX9_instrument_30 rfl (lv_at hl 2 rfl) ?_
  refine lv_iload_n hx hb dX9_instrument_31 rfl (lv_at hl 3 rfl) ?_
  refine g_i (wr := [(q1, .inr (11, [.ref q13, w3, w4, w5, w6, w7, w8, w9, w10, w11, w12])), (q17, .inl (g.2 3, 10, .inr (.inr (.inr (.inr f18))))), (q13, .inr (10, [.ref q17, .int 0, w16]))]) (rV (rest := []) hx hb hml hown hE hP hD 1 rfl rfl (c1879_X6_instrumentNumber l g q20 q28 0 w21 w22 w23 w25 w26 w27 f29 (hf30) H.size) (kV_X6_instrumentNumber hE (e1010 hE) rfl rfl ⟨(Nat.le_of_ble_eq_true rfl), (Nat.le_of_ble_eq_true rfl)⟩) [0, 1] rfl (by decide) rfl hl.1 rfl (lv_room (Nat.le_of_ble_eq_true rfl)) dX9_instrument_32 ⟨(Nat.le_of_ble_eq_true rfl), (Nat.le_of_ble_eq_true rfl)⟩) hP hD hS hA [0, 1] [2, 3, 4] rfl rfl (by decide) (by decide) (fun u4 H locs hP hD hS => ?_)
  have hP : va_P g.1 vwCl [(q1, .inr (11, [.ref q13, w3, w4, w5, w6, w7, w8, w9, w10, w11, w12])), (q17, .inl (g.2 3, 10, .inr (.inr (.inr (.inr f18))))), (q13, .inr (10, [.ref q17, .int 0, w16])), (q28, .inl (g.2 0, 20, .inl f29)), (q20, .inr (8, [w21, w22, w23, .ref q28, w25, w26, w27]))] H := hP
  have hD : va_D A [(q1, .inr (11, [.ref q13, w3, w4, w5, w6, w7, w8, w9, w10, w11, w12])), (q17, .inl (g.2 3, 10, .inr (.inr (.inr (.inr f18))))), (q13, .inr (10, [.ref q17, .int 0, w16])), (q28, .inl (g.2 0, 20, .inl f29)), (q20, .inr (8, [w21, w22, w23, .ref q28, w25, w26, w27]))] := hD
  exact x_zret hx hb hr rfl rfl hlocks hP hD hS hAe hsz (Nat.le_of_ble_eq_true rfl) (Nat.le_of_ble_eq_true rfl) (fun _ => 0) [0, 1, 2, 3, 4] (by decide) rfl dX9_instrument_35

set_option maxHeartbeats 4000000 in
set_option maxRecDepth 100000 in
theorem c2159_L_instrument (l : Launch) (g : gG) (hlx : l.stackTraces = false) (q1 q2 q14 q18 q21 q29 : Nat) (w4 w5 w6 w7 w8 w9 w10 w11 w12 w13 w17 w22 w23 w24 w26 w27 w28 : Value) (f19 : Nat → Option Nat) (f30 : Nat → Int32) (f32 : Nat → Int64) (hf20 : f19 0 = some q21) (hf31 : f30 0 = 0) (sz : Nat) : Met l yL_instrument [Cond.codeWith yL_instrument cL_instrument 5 (some .int) [(0, 10, 13, 13), (0, 10, 17, 15)]] ({ frames := 3, cells := 0, slots := 0, locals := 65 } : Room) (va_Pc [.ref q1, .int 0, .int 0, .ref q2] (PZ g sz [(q2, .inl (g.2 1, 1, .inr (.inl f32))), (q29, .inl (g.2 0, 20, .inl f30)), (q21, .inr (8, [w22, w23, w24, .ref q29, w26, w27, w28])), (q18, .inl (g.2 3, 10, .inr (.inr (.inr (.inr f19))))), (q14, .inr (10, [.ref q18, .int 0, w17])), (q1, .inr (11, [.ref q14, w4, w5, w6, w7, w8, w9, w10, w11, w12, w13]))])) (QI g [(q2, .inl (g.2 1, 1, .inr (.inl f32))), (q29, .inl (g.2 0, 20, .inl f30)), (q21, .inr (8, [w22, w23, w24, .ref q29, w26, w27, w28])), (q18, .inl (g.2 3, 10, .inr (.inr (.inr (.inr f19))))), (q14, .inr (10, [.ref q18, .int 0, w17])), (q1, .inr (11, [.ref q14, w4, w5, w6, w7, w8, w9, w10, w11, w12, w13]))] sz 0 (fun _ => [(q2, .inl (g.2 1, 1, .inr (.inl (vp_updL f32 0 0))))])) 0 0 (va_A [(q2, .inl (g.2 1, 1, .inr (.inl f32))), (q29, .inl (g.2 0, 20, .inl f30)), (q21, .inr (8, [w22, w23, w24, .ref q29, w26, w27, w28])), (q18, .inl (g.2 3, 10, .inr (.inr (.inr (.inr f19))))), (q14, .inr (10, [.ref q18, .int 0, w17])), (q1, .inr (11, [.ref q14, w4, w5, w6, w7, w8, w9, w10, w11, w12, w13]))] sz) := by
  refine ofH (by decide) (Nat.le_of_ble_eq_true rfl) rfl ?_
  intro p e s m args below meth c A ls hAe hsz hx hb hml hr hlocks hin hown hE hP hD hA hS hl htb hz
  have hown : s.vm.findClass RL = some m.cls := hown
  refine lv_aload_n hx hb dL_instrument_0 rfl (lv_at hl 3 rfl) ?_
  refine lv_iconst (v := 0) hx hb dL_instrument_1 (by decide) ?_
  refine lv_aload_n hx hb dL_instrument_2 rfl (lv_at hl 0 rfl) ?_
  refine lv_iload_n hx hb dL_instrument_3 rfl (lv_at hl 1 rfl) ?_
  refine lv_iload_n hx hb dL_instrument_4 rfl (lv_at hl 2 rfl) ?_
  refine g_i (wr := [(q2, .inl (g.2 1, 1, .inr (.inl f32)))]) (rV (rest := [.int 0, .ref q2]) hx hb hml hown hE hP hD 5 rfl rfl (c2158_X9_instrument l g q1 q14 q18 q21 q29 w4 w5 w6 w7 w8 w9 w10 w11 w12 w13 w17 w22 w23 w24 w26 w27 w28 f19 f30 (hf20) (hf31) s.heap.size) (kV_X9_instrument hE (e1015 hE) rfl rfl ⟨(Nat.le_of_ble_eq_true rfl), (Nat.le_of_ble_eq_true rfl)⟩) [1, 2, 3, 4, 5] rfl (by decide) rfl hl.1 rfl (lv_room (Nat.le_of_ble_eq_true rfl)) dL_instrument_5 ⟨(Nat.le_of_ble_eq_true rfl), (Nat.le_of_ble_eq_true rfl)⟩) hP hD hS hA [1, 2, 3, 4, 5] [0] rfl rfl (by decide) (by decide) (fun u1 H locs hP hD hS => ?_)
  have hP : va_P g.1 vwCl [(q2, .inl (g.2 1, 1, .inr (.inl f32))), (q1, .inr (11, [.ref q14, w4, w5, w6, w7, w8, w9, w10, w11, w12, w13])), (q18, .inl (g.2 3, 10, .inr (.inr (.inr (.inr f19))))), (q14, .inr (10, [.ref q18, .int 0, w17])), (q29, .inl (g.2 0, 20, .inl f30)), (q21, .inr (8, [w22, w23, w24, .ref q29, w26, w27, w28]))] H := hP
  have hD : va_D A [(q2, .inl (g.2 1, 1, .inr (.inl f32))), (q1, .inr (11, [.ref q14, w4, w5, w6, w7, w8, w9, w10, w11, w12, w13])), (q18, .inl (g.2 3, 10, .inr (.inr (.inr (.inr f19))))), (q14, .inr (10, [.ref q18, .int 0, w17])), (q29, .inl (g.2 0, 20, .inl f30)), (q21, .inr (8, [w22, w23, w24, .ref q29, w26, w27, w28]))] := hD
  refine lv_i2l (v := 0) hx hb dL_instrument_8 (by decide) ?_
  refine x_last (ws' := [(q2, .inl (g.2 1, 1, .inr (.inl (vp_updL f32 0 0)))), (q1, .inr (11, [.ref q14, w4, w5, w6, w7, w8, w9, w10, w11, w12, w13])), (q18, .inl (g.2 3, 10, .inr (.inr (.inr (.inr f19))))), (q14, .inr (10, [.ref q18, .int 0, w17])), (q29, .inl (g.2 0, 20, .inl f30)), (q21, .inr (8, [w22, w23, w24, .ref q29, w26, w27, w28]))]) hx hb hE hP hD hS 0 rfl 0 (x_in (by decide)) (by decide) dL_instrument_9 rfl (fun H locs hP hD hS => ?_)
  refine lv_goto (tgt := 21) hx hb dL_instrument_10 (by decide) ?_
  refine lv_iconst (v := 0) hx hb dL_instrument_21 (by decide) ?_
  exact x_zret hx hb hr rfl rfl hlocks hP hD hS hAe hsz (Nat.le_of_ble_eq_true rfl) (Nat.le_of_ble_eq_true rfl) (fun _ => 0) [0] (by decide) rfl dL_instrument_22

set_option maxHeartbeats 4000000 in
set_option maxRecDepth 100000 in
theorem c2160_X10_instrument (l : Launch) (g : gG) (q1 q39 : Nat) (w3 w4 w5 w6 w7 w8 w9 w10 w11 w12 w13 w14 w15 w16 w17 w18 w19 w20 w21 w22 w23 w24 w25 w26 w27 w28 w29 w30 w31 w32 w33 w34 w35 w36 w37 w38 : Value) (f40 : Nat → Int32) (hf41 : f40 392 = 0) (hf42 : f40 474 = 0) (sz : Nat) : Met l yX10_instrument [Cond.code yX10_instrument cX10_instrument 5 (some .int)] ({ frames := 2, cells := 0, slots := 0, locals := 42 } : Room) (va_Pc [.ref q1, .int 0, .int 0] (PX g sz [(q39, .inl (g.2 0, 497, .inl f40)), (q1, .inr (12, [.ref q39, w3, w4, w5, w6, w7, w8, w9, w10, w11, w12, w13, w14, w15, w16, w17, w18, w19, w20, w21, w22, w23, w24, w25, w26, w27, w28, w29, w30, w31, w32, w33, w34, w35, w36, w37, w38]))])) (QI g [(q39, .inl (g.2 0, 497, .inl f40)), (q1, .inr (12, [.ref q39, w3, w4, w5, w6, w7, w8, w9, w10, w11, w12, w13, w14, w15, w16, w17, w18, w19, w20, w21, w22, w23, w24, w25, w26, w27, w28, w29, w30, w31, w32, w33, w34, w35, w36, w37, w38]))] sz 0 (fun _ => [(q1, .inr (12, [.ref q39, w3, w4, w5, w6, w7, .int 0, w9, w10, w11, w12, w13, w14, w15, w16, w17, w18, w19, w20, w21, w22, w23, w24, w25, w26, w27, w28, w29, w30, w31, w32, w33, w34, w35, w36, w37, w38]))])) 0 0 (va_A [(q39, .inl (g.2 0, 497, .inl f40)), (q1, .inr (12, [.ref q39, w3, w4, w5, w6, w7, w8, w9, w10, w11, w12, w13, w14, w15, w16, w17, w18, w19, w20, w21, w22, w23, w24, w25, w26, w27, w28, w29, w30, w31, w32, w33, w34, w35, w36, w37, w38]))] sz) := by
  refine ofN (by decide) (Nat.le_of_ble_eq_true rfl) rfl ?_
  intro p e s m args below meth c A ls hAe hsz hx hb hml hr hlocks hin hown hE hP hD hA hS hl
  have hown : s.vm.findClass RX10 = some m.cls := hown
  refine lv_aload_n hx hb dX10_instrument_0 rfl (lv_at hl 0 rfl) ?_
  refine lv_iload_n hx hb dX10_instrument_1 rfl (lv_at hl 1 rfl) ?_
  refine g0_i (rS (rest := [.ref q1]) hx hb hml hown hE hP hD (c1857_X10_isInstrument l g 0 (by decide) (by decide) s.heap.size) (kS_X10_isInstrument hE (e1645 hE) rfl rfl ⟨(Nat.le_of_ble_eq_true rfl), (Nat.le_of_ble_eq_true rfl)⟩) [] rfl (by decide) rfl hl.1 rfl (lv_room (Nat.le_of_ble_eq_true rfl)) dX10_instrument_2 ⟨(Nat.le_of_ble_eq_true rfl), (Nat.le_of_ble_eq_true rfl)⟩) hP hD hS hA (fun u9 H locs hP hS => ?_)
  refine lv_if_ne (tgt := 12) hx hb dX10_instrument_5 (by decide) (fun _ => ?_) (fun h => absurd h (by decide))
  refine lv_iload_n hx hb dX10_instrument_12 rfl (lv_at hl 2 rfl) ?_
  refine lv_iconst (v := 0) hx hb dX10_instrument_13 (by decide) ?_
  refine lv_iconst (v := 5) hx hb dX10_instrument_14 (by decide) ?_
  refine g0_i (rS (rest := [.ref q1]) hx hb hml hown hE hP hD (c971_X10_in l g 0 (by decide) (by decide) H.size) (kS_X10_in hE (e1431 hE) rfl rfl ⟨(Nat.le_of_ble_eq_true rfl), (Nat.le_of_ble_eq_true rfl)⟩) [] rfl (by decide) rfl hl.1 rfl (lv_room (Nat.le_of_ble_eq_true rfl)) dX10_instrument_15 ⟨(Nat.le_of_ble_eq_true rfl), (Nat.le_of_ble_eq_true rfl)⟩) hP hD hS hA (fun u9 H locs hP hS => ?_)
  refine lv_if_ne (tgt := 25) hx hb dX10_instrument_18 (by decide) (fun _ => ?_) (fun h => absurd h (by decide))
  refine lv_iconst (v := 0) hx hb dX10_instrument_25 (by decide) ?_
  refine pf_RX10_86 (ws' := [(q39, .inl (g.2 0, 497, .inl f40)), (q1, .inr (12, [.ref q39, w3, w4, w5, w6, w7, .int 0, w9, w10, w11, w12, w13, w14, w15, w16, w17, w18, w19, w20, w21, w22, w23, w24, w25, w26, w27, w28, w29, w30, w31, w32, w33, w34, w35, w36, w37, w38]))]) hx hb hown hE hP hD hS 1 rfl rfl rfl (Nat.le_of_ble_eq_true rfl) dX10_instrument_26 rfl (fun H locs hP hD hS => ?_)
  refine lv_aload_n hx hb dX10_instrument_29 rfl (lv_at hl 0 rfl) ?_
  refine gf_RX10_86 hx hb hown hE hP 1 rfl rfl dX10_instrument_30 ?_
  refine lv_if_le (tgt := 38) hx hb dX10_instrument_33 (by decide) (fun _ => ?_) (fun h => absurd (by decide) h)
  refine lv_iconst (v := 0) hx hb dX10_instrument_38 (by decide) ?_
  refine lv_istore_n (lv' := [(3, .int 0), (0, .ref q1), (1, .int 0), (2, .int 0)]) hx hb dX10_instrument_39 rfl hl (by decide) rfl (fun ls hl => ?_)
  refine lv_iconst (v := 0) hx hb dX10_instrument_40 (by decide) ?_
  refine lv_istore (lv' := [(4, .int 0), (3, .int 0), (0, .ref q1), (1, .int 0), (2, .int 0)]) hx hb dX10_instrument_41 hl (by decide) rfl (fun ls hl => ?_)
  refine lv_iload hx hb dX10_instrument_43 (lv_at hl 0 rfl) ?_
  refine lv_aload_n hx hb dX10_instrument_45 rfl (lv_at hl 2 rfl) ?_
  refine gf_RX10_9 hx hb hown hE hP 1 rfl rfl dX10_instrument_46 ?_
  refine lv_sipush (v := 392) hx hb dX10_instrument_49 (by decide) ?_
  refine x_iald (v := 0) hx hb hE hP 0 rfl 392 (x_in (by decide)) (by decide) hf41 dX10_instrument_52 ?_
  refine lv_icmp_ge (tgt := 81) hx hb dX10_instrument_53 (by decide) (fun _ => ?_) (fun h => absurd (by decide) h)
  refine lv_iload_n hx hb dX10_instrument_81 rfl (lv_at hl 4 rfl) ?_
  refine lv_iconst (v := 5) hx hb dX10_instrument_82 (by decide) ?_
  refine lv_icmp_ne (tgt := 90) hx hb dX10_instrument_83 (by decide) (fun _ => ?_) (fun h => absurd h (by decide))
  refine lv_aload_n hx hb dX10_instrument_90 rfl (lv_at hl 2 rfl) ?_
  refine gf_RX10_9 hx hb hown hE hP 1 rfl rfl dX10_instrument_91 ?_
  refine lv_sipush (v := 474) hx hb dX10_instrument_94 (by decide) ?_
  refine lv_iconst (v := 5) hx hb dX10_instrument_97 (by decide) ?_
  refine lv_iload_n hx hb dX10_instrument_98 rfl (lv_at hl 3 rfl) ?_
  refine x_imul (v := 0) hx hb dX10_instrument_99 (by decide) ?_
  refine x_iadd (v := 474) hx hb dX10_instrument_100 (by decide) ?_
  refine lv_iload_n hx hb dX10_instrument_101 rfl (lv_at hl 4 rfl) ?_
  refine x_iadd (v := 474) hx hb dX10_instrument_102 (by decide) ?_
  refine x_iald (v := 0) hx hb hE hP 0 rfl 474 (x_in (by decide)) (by decide) hf42 dX10_instrument_103 ?_
  exact x_zret hx hb hr rfl rfl hlocks hP hD hS hAe hsz (Nat.le_of_ble_eq_true rfl) (Nat.le_of_ble_eq_true rfl) (fun _ => 0) [1] (by decide) rfl dX10_instrument_104

set_option maxHeartbeats 4000000 in
set_option maxRecDepth 100000 in
theorem c2161_X9_instrument (l : Launch) (g : gG) (q1 q13 q17 q20 q28 : Nat) (w3 w4 w5 w6 w7 w8 w9 w10 w11 w12 w16 w21 w22 w23 w25 w26 w27 : Value) (f18 : Nat → Option Nat) (f29 : Nat → Int32) (hf19 : f18 0 = some q20) (hf30 : f29 1 = 0) (sz : Nat) : Met l yX9_instrument [Cond.code yX9_instrument cX9_instrument 4 (some .int)] ({ frames := 2, cells := 0, slots := 0, locals := 42 } : Room) (va_Pc [.ref q1, .int 0, .int 1] (PX g sz [(q28, .inl (g.2 0, 20, .inl f29)), (q20, .inr (8, [w21, w22, w23, .ref q28, w25, w26, w27])), (q17, .inl (g.2 3, 10, .inr (.inr (.inr (.inr f18))))), (q13, .inr (10, [.ref q17, .int 0, w16])), (q1, .inr (11, [.ref q13, w3, w4, w5, w6, w7, w8, w9, w10, w11, w12]))])) (QI g [(q28, .inl (g.2 0, 20, .inl f29)), (q20, .inr (8, [w21, w22, w23, .ref q28, w25, w26, w27])), (q17, .inl (g.2 3, 10, .inr (.inr (.inr (.inr f18))))), (q13, .inr (10, [.ref q17, .int 0, w16])), (q1, .inr (11, [.ref q13, w3, w4, w5, w6, w7, w8, w9, w10, w11, w12]))] sz 0 (fun _ => [(q1, .inr (11, [.ref q13, w3, w4, w5, w6, w7, w8, w9, w10, w11, w12])), (q17, .inl (g.2 3, 10, .inr (.inr (.inr (.inr f18))))), (q13, .inr (10, [.ref q17, .int 0, w16])), (q28, .inl (g.2 0, 20, .inl f29)), (q20, .inr (8, [w21, w22, w23, .ref q28, w25, w26, w27]))])) 0 0 (va_A [(q28, .inl (g.2 0, 20, .inl f29)), (q20, .inr (8, [w21, w22, w23, .ref q28, w25, w26, w27])), (q17, .inl (g.2 3, 10, .inr (.inr (.inr (.inr f18))))), (q13, .inr (10, [.ref q17, .int 0, w16])), (q1, .inr (11, [.ref q13, w3, w4, w5, w6, w7, w8, w9, w10, w11, w12]))] sz) := by
  refine ofN (by decide) (Nat.le_of_ble_eq_true rfl) rfl ?_
  intro p e s m args below meth c A ls hAe hsz hx hb hml hr hlocks hin hown hE hP hD hA hS hl
  have hown : s.vm.findClass RX9 = some m.cls := hown
  refine lv_iload_n hx hb dX9_instrument_0 rfl (lv_at hl 1 rfl) ?_
  refine g0_v (rS (rest := []) hx hb hml hown hE hP hD (c1854_X9_requireInstrument l g 0 (by decide) (by decide) s.heap.size) (kS_X9_requireInstrument hE (e991 hE) rfl rfl ⟨(Nat.le_of_ble_eq_true rfl), (Nat.le_of_ble_eq_true rfl)⟩) [] rfl (by decide) rfl hl.1 rfl (lv_room (Nat.le_of_ble_eq_true rfl)) dX9_instrument_1 ⟨(Nat.le_of_ble_eq_true rfl), (Nat.le_of_ble_eq_true rfl)⟩) hP hD hS hA (fun u9 H locs hP hS => ?_)
  refine lv_iload_n hx hb dX9_instrument_4 rfl (lv_at hl 2 rfl) ?_
  refine lv_iconst (v := 0) hx hb dX9_instrument_5 (by decide) ?_
  refine lv_iconst (v := 5) hx hb dX9_instrument_6 (by decide) ?_
  refine g0_v (rS (rest := []) hx hb hml hown hE hP hD (c968_X9_requireRange l g 1 (by decide) (by decide) H.size) (kS_X9_requireRange hE (e636 hE) rfl rfl ⟨(Nat.le_of_ble_eq_true rfl), (Nat.le_of_ble_eq_true rfl)⟩) [] rfl (by decide) rfl hl.1 rfl (lv_room (Nat.le_of_ble_eq_true rfl)) dX9_instrument_7 ⟨(Nat.le_of_ble_eq_true rfl), (Nat.le_of_ble_eq_true rfl)⟩) hP hD hS hA (fun u9 H locs hP hS => ?_)
  refine lv_aload_n hx hb dX9_instrument_10 rfl (lv_at hl 0 rfl) ?_
  refine gf_RX9_12 hx hb hown hE hP 4 rfl rfl dX9_instrument_11 ?_
  refine g_r (wr := [(q28, .inl (g.2 0, 20, .inl f29)), (q20, .inr (8, [w21, w22, w23, .ref q28, w25, w26, w27])), (q1, .inr (11, [.ref q13, w3, w4, w5, w6, w7, w8, w9, w10, w11, w12]))]) (rV (rest := []) hx hb hml hown hE hP hD 3 rfl rfl (c71_X8_current l g q13 q17 q20 w16 f18 (hf19) H.size) (kV_X8_current hE (e290 hE) rfl rfl ⟨(Nat.le_of_ble_eq_true rfl), (Nat.le_of_ble_eq_true rfl)⟩) [2, 3] rfl (by decide) rfl hl.1 rfl (lv_room (Nat.le_of_ble_eq_true rfl)) dX9_instrument_14 ⟨(Nat.le_of_ble_eq_true rfl), (Nat.le_of_ble_eq_true rfl)⟩) hP hD hS hA [2, 3] [0, 1, 4] rfl rfl (by decide) (by decide) (fun u3 H locs hP hD hS => ?_)
  have hP : va_P g.1 vwCl [(q28, .inl (g.2 0, 20, .inl f29)), (q20, .inr (8, [w21, w22, w23, .ref q28, w25, w26, w27])), (q1, .inr (11, [.ref q13, w3, w4, w5, w6, w7, w8, w9, w10, w11, w12])), (q17, .inl (g.2 3, 10, .inr (.inr (.inr (.inr f18))))), (q13, .inr (10, [.ref q17, .int 0, w16]))] H := hP
  have hD : va_D A [(q28, .inl (g.2 0, 20, .inl f29)), (q20, .inr (8, [w21, w22, w23, .ref q28, w25, w26, w27])), (q1, .inr (11, [.ref q13, w3, w4, w5, w6, w7, w8, w9, w10, w11, w12])), (q17, .inl (g.2 3, 10, .inr (.inr (.inr (.inr f18))))), (q13, .inr (10, [.ref q17, .int 0, w16]))] := hD
  refine lv_astore_n (lv' := [(3, .ref q20), (0, .ref q1), (1, .int 0), (2, .int 1)]) hx hb dX9_instrument_17 rfl hl (by decide) rfl (fun ls hl => ?_)
  refine lv_iload_n hx hb dX9_instrument_18 rfl (lv_at hl 3 rfl) ?_
  refine lv_iconst (v := 5) hx hb dX9_instrument_19 (by decide) ?_
  refine lv_icmp_ne (tgt := 29) hx hb dX9_instrument_20 (by decide) (fun _ => ?_) (fun h => absurd h (by decide))
  refine lv_aload_n hx hb dX9_instrument_29 rfl (lv_at hl 0 rfl) ?_
  refine lv_iload_n hx hb dX9_instrument_30 rfl (lv_at hl 2 rfl) ?_
  refine lv_iload_n hx hb dX9_instrument_31 rfl (lv_at hl 3 rfl) ?_
  refine g_i (wr := [(q1, .inr (11, [.ref q13, w3, w4, w5, w6, w7, w8, w9, w10, w11, w12])), (q17, .inl (g.2 3, 10, .inr (.inr (.inr (.inr f18))))), (q13, .inr (10, [.ref q17, .int 0, w16]))]) (rV (rest := []) hx hb hml hown hE hP hD 1 rfl rfl (c1880_X6_instrumentNumber l g q20 q28 0 w21 w22 w23 w25 w26 w27 f29 (hf30) H.size) (kV_X6_instrumentNumber hE (e1010 hE) rfl rfl ⟨(Nat.le_of_ble_eq_true rfl), (Nat.le_of_ble_eq_true rfl)⟩) [0, 1] rfl (by decide) rfl hl.1 rfl (lv_room (Nat.le_of_ble_eq_true rfl)) dX9_instrument_32 ⟨(Nat.le_of_ble_eq_true rfl), (Nat.le_of_ble_eq_true rfl)⟩) hP hD hS hA [0, 1] [2, 3, 4] rfl rfl (by decide) (by decide) (fun u4 H locs hP hD hS => ?_)
  have hP : va_P g.1 vwCl [(q1, .inr (11, [.ref q13, w3, w4, w5, w6, w7, w8, w9, w10, w11, w12])), (q17, .inl (g.2 3, 10, .inr (.inr (.inr (.inr f18))))), (q13, .inr (10, [.ref q17, .int 0, w16])), (q28, .inl (g.2 0, 20, .inl f29)), (q20, .inr (8, [w21, w22, w23, .ref q28, w25, w26, w27]))] H := hP
  have hD : va_D A [(q1, .inr (11, [.ref q13, w3, w4, w5, w6, w7, w8, w9, w10, w11, w12])), (q17, .inl (g.2 3, 10, .inr (.inr (.inr (.inr f18))))), (q13, .inr (10, [.ref q17, .int 0, w16])), (q28, .inl (g.2 0, 20, .inl f29)), (q20, .inr (8, [w21, w22, w23, .ref q28, w25, w26, w27]))] := hD
  exact x_zret hx hb hr rfl rfl hlocks hP hD hS hAe hsz (Nat.le_of_ble_eq_true rfl) (Nat.le_of_ble_eq_true rfl) (fun _ => 0) [0, 1, 2, 3, 4] (by decide) rfl dX9_instrument_35

set_option maxHeartbeats 4000000 in
set_option maxRecDepth 100000 in
theorem c2162_L_instrument (l : Launch) (g : gG) (hlx : l.stackTraces = false) (q1 q2 q14 q18 q21 q29 : Nat) (w4 w5 w6 w7 w8 w9 w10 w11 w12 w13 w17 w22 w23 w24 w26 w27 w28 : Value) (f19 : Nat → Option Nat) (f30 : Nat → Int32) (f32 : Nat → Int64) (hf20 : f19 0 = some q21) (hf31 : f30 1 = 0) (sz : Nat) : Met l yL_instrument [Cond.codeWith yL_instrument cL_instrument 5 (some .int) [(0, 10, 13, 13), (0, 10, 17, 15)]] ({ frames := 3, cells := 0, slots := 0, locals := 65 } : Room) (va_Pc [.ref q1, .int 0, .int 1, .ref q2] (PZ g sz [(q2, .inl (g.2 1, 1, .inr (.inl f32))), (q29, .inl (g.2 0, 20, .inl f30)), (q21, .inr (8, [w22, w23, w24, .ref q29, w26, w27, w28])), (q18, .inl (g.2 3, 10, .inr (.inr (.inr (.inr f19))))), (q14, .inr (10, [.ref q18, .int 0, w17])), (q1, .inr (11, [.ref q14, w4, w5, w6, w7, w8, w9, w10, w11, w12, w13]))])) (QI g [(q2, .inl (g.2 1, 1, .inr (.inl f32))), (q29, .inl (g.2 0, 20, .inl f30)), (q21, .inr (8, [w22, w23, w24, .ref q29, w26, w27, w28])), (q18, .inl (g.2 3, 10, .inr (.inr (.inr (.inr f19))))), (q14, .inr (10, [.ref q18, .int 0, w17])), (q1, .inr (11, [.ref q14, w4, w5, w6, w7, w8, w9, w10, w11, w12, w13]))] sz 0 (fun _ => [(q2, .inl (g.2 1, 1, .inr (.inl (vp_updL f32 0 0))))])) 0 0 (va_A [(q2, .inl (g.2 1, 1, .inr (.inl f32))), (q29, .inl (g.2 0, 20, .inl f30)), (q21, .inr (8, [w22, w23, w24, .ref q29, w26, w27, w28])), (q18, .inl (g.2 3, 10, .inr (.inr (.inr (.inr f19))))), (q14, .inr (10, [.ref q18, .int 0, w17])), (q1, .inr (11, [.ref q14, w4, w5, w6, w7, w8, w9, w10, w11, w12, w13]))] sz) := by
  refine ofH (by decide) (Nat.le_of_ble_eq_true rfl) rfl ?_
  intro p e s m args below meth c A ls hAe hsz hx hb hml hr hlocks hin hown hE hP hD hA hS hl htb hz
  have hown : s.vm.findClass RL = some m.cls := hown
  refine lv_aload_n hx hb dL_instrument_0 rfl (lv_at hl 3 rfl) ?_
  refine lv_iconst (v := 0) hx hb dL_instrument_1 (by decide) ?_
  refine lv_aload_n hx hb dL_instrument_2 rfl (lv_at hl 0 rfl) ?_
  refine lv_iload_n hx hb dL_instrument_3 rfl (lv_at hl 1 rfl) ?_
  refine lv_iload_n hx hb dL_instrument_4 rfl (lv_at hl 2 rfl) ?_
  refine g_i (wr := [(q2, .inl (g.2 1, 1, .inr (.inl f32)))]) (rV (rest := [.int 0, .ref q2]) hx hb hml hown hE hP hD 5 rfl rfl (c2161_X9_instrument l g q1 q14 q18 q21 q29 w4 w5 w6 w7 w8 w9 w10 w11 w12 w13 w17 w22 w23 w24 w26 w27 w28 f19 f30 (hf20) (hf31) s.heap.size) (kV_X9_instrument hE (e1015 hE) rfl rfl ⟨(Nat.le_of_ble_eq_true rfl), (Nat.le_of_ble_eq_true rfl)⟩) [1, 2, 3, 4, 5] rfl (by decide) rfl hl.1 rfl (lv_room (Nat.le_of_ble_eq_true rfl)) dL_instrument_5 ⟨(Nat.le_of_ble_eq_true rfl), (Nat.le_of_ble_eq_true rfl)⟩) hP hD hS hA [1, 2, 3, 4, 5] [0] rfl rfl (by decide) (by decide) (fun u1 H locs hP hD hS => ?_)
  have hP : va_P g.1 vwCl [(q2, .inl (g.2 1, 1, .inr (.inl f32))), (q1, .inr (11, [.ref q14, w4, w5, w6, w7, w8, w9, w10, w11, w12, w13])), (q18, .inl (g.2 3, 10, .inr (.inr (.inr (.inr f19))))), (q14, .inr (10, [.ref q18, .int 0, w17])), (q29, .inl (g.2 0, 20, .inl f30)), (q21, .inr (8, [w22, w23, w24, .ref q29, w26, w27, w28]))] H := hP
  have hD : va_D A [(q2, .inl (g.2 1, 1, .inr (.inl f32))), (q1, .inr (11, [.ref q14, w4, w5, w6, w7, w8, w9, w10, w11, w12, w13])), (q18, .inl (g.2 3, 10, .inr (.inr (.inr (.inr f19))))), (q14, .inr (10, [.ref q18, .int 0, w17])), (q29, .inl (g.2 0, 20, .inl f30)), (q21, .inr (8, [w22, w23, w24, .ref q29, w26, w27, w28]))] := hD
  refine lv_i2l (v := 0) hx hb dL_instrument_8 (by decide) ?_
  refine x_last (ws' := [(q2, .inl (g.2 1, 1, .inr (.inl (vp_updL f32 0 0)))), (q1, .inr (11, [.ref q14, w4, w5, w6, w7, w8, w9, w10, w11, w12, w13])), (q18, .inl (g.2 3, 10, .inr (.inr (.inr (.inr f19))))), (q14, .inr (10, [.ref q18, .int 0, w17])), (q29, .inl (g.2 0, 20, .inl f30)), (q21, .inr (8, [w22, w23, w24, .ref q29, w26, w27, w28]))]) hx hb hE hP hD hS 0 rfl 0 (x_in (by decide)) (by decide) dL_instrument_9 rfl (fun H locs hP hD hS => ?_)
  refine lv_goto (tgt := 21) hx hb dL_instrument_10 (by decide) ?_
  refine lv_iconst (v := 0) hx hb dL_instrument_21 (by decide) ?_
  exact x_zret hx hb hr rfl rfl hlocks hP hD hS hAe hsz (Nat.le_of_ble_eq_true rfl) (Nat.le_of_ble_eq_true rfl) (fun _ => 0) [0] (by decide) rfl dL_instrument_22

set_option maxHeartbeats 4000000 in
set_option maxRecDepth 100000 in
theorem c2163_X10_instrument (l : Launch) (g : gG) (q1 q39 : Nat) (w3 w4 w5 w6 w7 w8 w9 w10 w11 w12 w13 w14 w15 w16 w17 w18 w19 w20 w21 w22 w23 w24 w25 w26 w27 w28 w29 w30 w31 w32 w33 w34 w35 w36 w37 w38 : Value) (f40 : Nat → Int32) (hf41 : f40 392 = 0) (hf42 : f40 475 = 0) (sz : Nat) : Met l yX10_instrument [Cond.code yX10_instrument cX10_instrument 5 (some .int)] ({ frames := 2, cells := 0, slots := 0, locals := 42 } : Room) (va_Pc [.ref q1, .int 0, .int 1] (PX g sz [(q39, .inl (g.2 0, 497, .inl f40)), (q1, .inr (12, [.ref q39, w3, w4, w5, w6, w7, w8, w9, w10, w11, w12, w13, w14, w15, w16, w17, w18, w19, w20, w21, w22, w23, w24, w25, w26, w27, w28, w29, w30, w31, w32, w33, w34, w35, w36, w37, w38]))])) (QI g [(q39, .inl (g.2 0, 497, .inl f40)), (q1, .inr (12, [.ref q39, w3, w4, w5, w6, w7, w8, w9, w10, w11, w12, w13, w14, w15, w16, w17, w18, w19, w20, w21, w22, w23, w24, w25, w26, w27, w28, w29, w30, w31, w32, w33, w34, w35, w36, w37, w38]))] sz 0 (fun _ => [(q1, .inr (12, [.ref q39, w3, w4, w5, w6, w7, .int 0, w9, w10, w11, w12, w13, w14, w15, w16, w17, w18, w19, w20, w21, w22, w23, w24, w25, w26, w27, w28, w29, w30, w31, w32, w33, w34, w35, w36, w37, w38]))])) 0 0 (va_A [(q39, .inl (g.2 0, 497, .inl f40)), (q1, .inr (12, [.ref q39, w3, w4, w5, w6, w7, w8, w9, w10, w11, w12, w13, w14, w15, w16, w17, w18, w19, w20, w21, w22, w23, w24, w25, w26, w27, w28, w29, w30, w31, w32, w33, w34, w35, w36, w37, w38]))] sz) := by
  refine ofN (by decide) (Nat.le_of_ble_eq_true rfl) rfl ?_
  intro p e s m args below meth c A ls hAe hsz hx hb hml hr hlocks hin hown hE hP hD hA hS hl
  have hown : s.vm.findClass RX10 = some m.cls := hown
  refine lv_aload_n hx hb dX10_instrument_0 rfl (lv_at hl 0 rfl) ?_
  refine lv_iload_n hx hb dX10_instrument_1 rfl (lv_at hl 1 rfl) ?_
  refine g0_i (rS (rest := [.ref q1]) hx hb hml hown hE hP hD (c1857_X10_isInstrument l g 0 (by decide) (by decide) s.heap.size) (kS_X10_isInstrument hE (e1645 hE) rfl rfl ⟨(Nat.le_of_ble_eq_true rfl), (Nat.le_of_ble_eq_true rfl)⟩) [] rfl (by decide) rfl hl.1 rfl (lv_room (Nat.le_of_ble_eq_true rfl)) dX10_instrument_2 ⟨(Nat.le_of_ble_eq_true rfl), (Nat.le_of_ble_eq_true rfl)⟩) hP hD hS hA (fun u9 H locs hP hS => ?_)
  refine lv_if_ne (tgt := 12) hx hb dX10_instrument_5 (by decide) (fun _ => ?_) (fun h => absurd h (by decide))
  refine lv_iload_n hx hb dX10_instrument_12 rfl (lv_at hl 2 rfl) ?_
  refine lv_iconst (v := 0) hx hb dX10_instrument_13 (by decide) ?_
  refine lv_iconst (v := 5) hx hb dX10_instrument_14 (by decide) ?_
  refine g0_i (rS (rest := [.ref q1]) hx hb hml hown hE hP hD (c971_X10_in l g 1 (by decide) (by decide) H.size) (kS_X10_in hE (e1431 hE) rfl rfl ⟨(Nat.le_of_ble_eq_true rfl), (Nat.le_of_ble_eq_true rfl)⟩) [] rfl (by decide) rfl hl.1 rfl (lv_room (Nat.le_of_ble_eq_true rfl)) dX10_instrument_15 ⟨(Nat.le_of_ble_eq_true rfl), (Nat.le_of_ble_eq_true rfl)⟩) hP hD hS hA (fun u9 H locs hP hS => ?_)
  refine lv_if_ne (tgt := 25) hx hb dX10_instrument_18 (by decide) (fun _ => ?_) (fun h => absurd h (by decide))
  refine lv_iconst (v := 0) hx hb dX10_instrument_25 (by decide) ?_
  refine pf_RX10_86 (ws' := [(q39, .inl (g.2 0, 497, .inl f40)), (q1, .inr (12, [.ref q39, w3, w4, w5, w6, w7, .int 0, w9, w10, w11, w12, w13, w14, w15, w16, w17, w18, w19, w20, w21, w22, w23, w24, w25, w26, w27, w28, w29, w30, w31, w32, w33, w34, w35, w36, w37, w38]))]) hx hb hown hE hP hD hS 1 rfl rfl rfl (Nat.le_of_ble_eq_true rfl) dX10_instrument_26 rfl (fun H locs hP hD hS => ?_)
  refine lv_aload_n hx hb dX10_instrument_29 rfl (lv_at hl 0 rfl) ?_
  refine gf_RX10_86 hx hb hown hE hP 1 rfl rfl dX10_instrument_30 ?_
  refine lv_if_le (tgt := 38) hx hb dX10_instrument_33 (by decide) (fun _ => ?_) (fun h => absurd (by decide) h)
  refine lv_iconst (v := 0) hx hb dX10_instrument_38 (by decide) ?_
  refine lv_istore_n (lv' := [(3, .int 0), (0, .ref q1), (1, .int 0), (2, .int 1)]) hx hb dX10_instrument_39 rfl hl (by decide) rfl (fun ls hl => ?_)
  refine lv_iconst (v := 0) hx hb dX10_instrument_40 (by decide) ?_
  refine lv_istore (lv' := [(4, .int 0), (3, .int 0), (0, .ref q1), (1, .int 0), (2, .int 1)]) hx hb dX10_instrument_41 hl (by decide) rfl (fun ls hl => ?_)
  refine lv_iload hx hb dX10_instrument_43 (lv_at hl 0 rfl) ?_
  refine lv_aload_n hx hb dX10_instrument_45 rfl (lv_at hl 2 rfl) ?_
  refine gf_RX10_9 hx hb hown hE hP 1 rfl rfl dX10_instrument_46 ?_
  refine lv_sipush (v := 392) hx hb dX10_instrument_49 (by decide) ?_
  refine x_iald (v := 0) hx hb hE hP 0 rfl 392 (x_in (by decide)) (by decide) hf41 dX10_instrument_52 ?_
  refine lv_icmp_ge (tgt := 81) hx hb dX10_instrument_53 (by decide) (fun _ => ?_) (fun h => absurd (by decide) h)
  refine lv_iload_n hx hb dX10_instrument_81 rfl (lv_at hl 4 rfl) ?_
  refine lv_iconst (v := 5) hx hb dX10_instrument_82 (by decide) ?_
  refine lv_icmp_ne (tgt := 90) hx hb dX10_instrument_83 (by decide) (fun _ => ?_) (fun h => absurd h (by decide))
  refine lv_aload_n hx hb dX10_instrument_90 rfl (lv_at hl 2 rfl) ?_
  refine gf_RX10_9 hx hb hown hE hP 1 rfl rfl dX10_instrument_91 ?_
  refine lv_sipush (v := 474) hx hb dX10_instrument_94 (by decide) ?_
  refine lv_iconst (v := 5) hx hb dX10_instrument_97 (by decide) ?_
  refine lv_iload_n hx hb dX10_instrument_98 rfl (lv_at hl 3 rfl) ?_
  refine x_imul (v := 0) hx hb dX10_instrument_99 (by decide) ?_
  refine x_iadd (v := 474) hx hb dX10_instrument_100 (by decide) ?_
  refine lv_iload_n hx hb dX10_instrument_101 rfl (lv_at hl 4 rfl) ?_
  refine x_iadd (v := 475) hx hb dX10_instrument_102 (by decide) ?_
  refine x_iald (v := 0) hx hb hE hP 0 rfl 475 (x_in (by decide)) (by decide) hf42 dX10_instrument_103 ?_
  exact x_zret hx hb hr rfl rfl hlocks hP hD hS hAe hsz (Nat.le_of_ble_eq_true rfl) (Nat.le_of_ble_eq_true rfl) (fun _ => 0) [1] (by decide) rfl dX10_instrument_104

set_option maxHeartbeats 4000000 in
set_option maxRecDepth 100000 in
theorem c2164_X9_instrument (l : Launch) (g : gG) (q1 q13 q17 q20 q28 : Nat) (w3 w4 w5 w6 w7 w8 w9 w10 w11 w12 w16 w21 w22 w23 w25 w26 w27 : Value) (f18 : Nat → Option Nat) (f29 : Nat → Int32) (hf19 : f18 0 = some q20) (hf30 : f29 2 = 100) (sz : Nat) : Met l yX9_instrument [Cond.code yX9_instrument cX9_instrument 4 (some .int)] ({ frames := 2, cells := 0, slots := 0, locals := 42 } : Room) (va_Pc [.ref q1, .int 0, .int 2] (PX g sz [(q28, .inl (g.2 0, 20, .inl f29)), (q20, .inr (8, [w21, w22, w23, .ref q28, w25, w26, w27])), (q17, .inl (g.2 3, 10, .inr (.inr (.inr (.inr f18))))), (q13, .inr (10, [.ref q17, .int 0, w16])), (q1, .inr (11, [.ref q13, w3, w4, w5, w6, w7, w8, w9, w10, w11, w12]))])) (QI g [(q28, .inl (g.2 0, 20, .inl f29)), (q20, .inr (8, [w21, w22, w23, .ref q28, w25, w26, w27])), (q17, .inl (g.2 3, 10, .inr (.inr (.inr (.inr f18))))), (q13, .inr (10, [.ref q17, .int 0, w16])), (q1, .inr (11, [.ref q13, w3, w4, w5, w6, w7, w8, w9, w10, w11, w12]))] sz 100 (fun _ => [(q1, .inr (11, [.ref q13, w3, w4, w5, w6, w7, w8, w9, w10, w11, w12])), (q17, .inl (g.2 3, 10, .inr (.inr (.inr (.inr f18))))), (q13, .inr (10, [.ref q17, .int 0, w16])), (q28, .inl (g.2 0, 20, .inl f29)), (q20, .inr (8, [w21, w22, w23, .ref q28, w25, w26, w27]))])) 0 0 (va_A [(q28, .inl (g.2 0, 20, .inl f29)), (q20, .inr (8, [w21, w22, w23, .ref q28, w25, w26, w27])), (q17, .inl (g.2 3, 10, .inr (.inr (.inr (.inr f18))))), (q13, .inr (10, [.ref q17, .int 0, w16])), (q1, .inr (11, [.ref q13, w3, w4, w5, w6, w7, w8, w9, w10, w11, w12]))] sz) := by
  refine ofN (by decide) (Nat.le_of_ble_eq_true rfl) rfl ?_
  intro p e s m args below meth c A ls hAe hsz hx hb hml hr hlocks hin hown hE hP hD hA hS hl
  have hown : s.vm.findClass RX9 = some m.cls := hown
  refine lv_iload_n hx hb dX9_instrument_0 rfl (lv_at hl 1 rfl) ?_
  refine g0_v (rS (rest := []) hx hb hml hown hE hP hD (c1854_X9_requireInstrument l g 0 (by decide) (by decide) s.heap.size) (kS_X9_requireInstrument hE (e991 hE) rfl rfl ⟨(Nat.le_of_ble_eq_true rfl), (Nat.le_of_ble_eq_true rfl)⟩) [] rfl (by decide) rfl hl.1 rfl (lv_room (Nat.le_of_ble_eq_true rfl)) dX9_instrument_1 ⟨(Nat.le_of_ble_eq_true rfl), (Nat.le_of_ble_eq_true rfl)⟩) hP hD hS hA (fun u9 H locs hP hS => ?_)
  refine lv_iload_n hx hb dX9_instrument_4 rfl (lv_at hl 2 rfl) ?_
  refine lv_iconst (v := 0) hx hb dX9_instrument_5 (by decide) ?_
  refine lv_iconst (v := 5) hx hb dX9_instrument_6 (by decide) ?_
  refine g0_v (rS (rest := []) hx hb hml hown hE hP hD (c968_X9_requireRange l g 2 (by decide) (by decide) H.size) (kS_X9_requireRange hE (e636 hE) rfl rfl ⟨(Nat.le_of_ble_eq_true rfl), (Nat.le_of_ble_eq_true rfl)⟩) [] rfl (by decide) rfl hl.1 rfl (lv_room (Nat.le_of_ble_eq_true rfl)) dX9_instrument_7 ⟨(Nat.le_of_ble_eq_true rfl), (Nat.le_of_ble_eq_true rfl)⟩) hP hD hS hA (fun u9 H locs hP hS => ?_)
  refine lv_aload_n hx hb dX9_instrument_10 rfl (lv_at hl 0 rfl) ?_
  refine gf_RX9_12 hx hb hown hE hP 4 rfl rfl dX9_instrument_11 ?_
  refine g_r (wr := [(q28, .inl (g.2 0, 20, .inl f29)), (q20, .inr (8, [w21, w22, w23, .ref q28, w25, w26, w27])), (q1, .inr (11, [.ref q13, w3, w4, w5, w6, w7, w8, w9, w10, w11, w12]))]) (rV (rest := []) hx hb hml hown hE hP hD 3 rfl rfl (c71_X8_current l g q13 q17 q20 w16 f18 (hf19) H.size) (kV_X8_current hE (e290 hE) rfl rfl ⟨(Nat.le_of_ble_eq_true rfl), (Nat.le_of_ble_eq_true rfl)⟩) [2, 3] rfl (by decide) rfl hl.1 rfl (lv_room (Nat.le_of_ble_eq_true rfl)) dX9_instrument_14 ⟨(Nat.le_of_ble_eq_true rfl), (Nat.le_of_ble_eq_true rfl)⟩) hP hD hS hA [2, 3] [0, 1, 4] rfl rfl (by decide) (by decide) (fun u3 H locs hP hD hS => ?_)
  have hP : va_P g.1 vwCl [(q28, .inl (g.2 0, 20, .inl f29)), (q20, .inr (8, [w21, w22, w23, .ref q28, w25, w26, w27])), (q1, .inr (11, [.ref q13, w3, w4, w5, w6, w7, w8, w9, w10, w11, w12])), (q17, .inl (g.2 3, 10, .inr (.inr (.inr (.inr f18))))), (q13, .inr (10, [.ref q17, .int 0, w16]))] H := hP
  have hD : va_D A [(q28, .inl (g.2 0, 20, .inl f29)), (q20, .inr (8, [w21, w22, w23, .ref q28, w25, w26, w27])), (q1, .inr (11, [.ref q13, w3, w4, w5, w6, w7, w8, w9, w10, w11, w12])), (q17, .inl (g.2 3, 10, .inr (.inr (.inr (.inr f18))))), (q13, .inr (10, [.ref q17, .int 0, w16]))] := hD
  refine lv_astore_n (lv' := [(3, .ref q20), (0, .ref q1), (1, .int 0), (2, .int 2)]) hx hb dX9_instrument_17 rfl hl (by decide) rfl (fun ls hl => ?_)
  refine lv_iload_n hx hb dX9_instrument_18 rfl (lv_at hl 3 rfl) ?_
  refine lv_iconst (v := 5) hx hb dX9_instrument_19 (by decide) ?_
  refine lv_icmp_ne (tgt := 29) hx hb dX9_instrument_20 (by decide) (fun _ => ?_) (fun h => absurd h (by decide))
  refine lv_aload_n hx hb dX9_instrument_29 rfl (lv_at hl 0 rfl) ?_
  refine lv_iload_n hx hb dX9_instrument_30 rfl (lv_at hl 2 rfl) ?_
  refine lv_iload_n hx hb dX9_instrument_31 rfl (lv_at hl 3 rfl) ?_
  refine g_i (wr := [(q1, .inr (11, [.ref q13, w3, w4, w5, w6, w7, w8, w9, w10, w11, w12])), (q17, .inl (g.2 3, 10, .inr (.inr (.inr (.inr f18))))), (q13, .inr (10, [.ref q17, .int 0, w16]))]) (rV (rest := []) hx hb hml hown hE hP hD 1 rfl rfl (c1881_X6_instrumentNumber l g q20 q28 100 w21 w22 w23 w25 w26 w27 f29 (hf30) H.size) (kV_X6_instrumentNumber hE (e1010 hE) rfl rfl ⟨(Nat.le_of_ble_eq_true rfl), (Nat.le_of_ble_eq_true rfl)⟩) [0, 1] rfl (by decide) rfl hl.1 rfl (lv_room (Nat.le_of_ble_eq_true rfl)) dX9_instrument_32 ⟨(Nat.le_of_ble_eq_true rfl), (Nat.le_of_ble_eq_true rfl)⟩) hP hD hS hA [0, 1] [2, 3, 4] rfl rfl (by decide) (by decide) (fun u4 H locs hP hD hS => ?_)
  have hP : va_P g.1 vwCl [(q1, .inr (11, [.ref q13, w3, w4, w5, w6, w7, w8, w9, w10, w11, w12])), (q17, .inl (g.2 3, 10, .inr (.inr (.inr (.inr f18))))), (q13, .inr (10, [.ref q17, .int 0, w16])), (q28, .inl (g.2 0, 20, .inl f29)), (q20, .inr (8, [w21, w22, w23, .ref q28, w25, w26, w27]))] H := hP
  have hD : va_D A [(q1, .inr (11, [.ref q13, w3, w4, w5, w6, w7, w8, w9, w10, w11, w12])), (q17, .inl (g.2 3, 10, .inr (.inr (.inr (.inr f18))))), (q13, .inr (10, [.ref q17, .int 0, w16])), (q28, .inl (g.2 0, 20, .inl f29)), (q20, .inr (8, [w21, w22, w23, .ref q28, w25, w26, w27]))] := hD
  exact x_zret hx hb hr rfl rfl hlocks hP hD hS hAe hsz (Nat.le_of_ble_eq_true rfl) (Nat.le_of_ble_eq_true rfl) (fun _ => 0) [0, 1, 2, 3, 4] (by decide) rfl dX9_instrument_35

set_option maxHeartbeats 4000000 in
set_option maxRecDepth 100000 in
theorem c2165_L_instrument (l : Launch) (g : gG) (hlx : l.stackTraces = false) (q1 q2 q14 q18 q21 q29 : Nat) (w4 w5 w6 w7 w8 w9 w10 w11 w12 w13 w17 w22 w23 w24 w26 w27 w28 : Value) (f19 : Nat → Option Nat) (f30 : Nat → Int32) (f32 : Nat → Int64) (hf20 : f19 0 = some q21) (hf31 : f30 2 = 100) (sz : Nat) : Met l yL_instrument [Cond.codeWith yL_instrument cL_instrument 5 (some .int) [(0, 10, 13, 13), (0, 10, 17, 15)]] ({ frames := 3, cells := 0, slots := 0, locals := 65 } : Room) (va_Pc [.ref q1, .int 0, .int 2, .ref q2] (PZ g sz [(q2, .inl (g.2 1, 1, .inr (.inl f32))), (q29, .inl (g.2 0, 20, .inl f30)), (q21, .inr (8, [w22, w23, w24, .ref q29, w26, w27, w28])), (q18, .inl (g.2 3, 10, .inr (.inr (.inr (.inr f19))))), (q14, .inr (10, [.ref q18, .int 0, w17])), (q1, .inr (11, [.ref q14, w4, w5, w6, w7, w8, w9, w10, w11, w12, w13]))])) (QI g [(q2, .inl (g.2 1, 1, .inr (.inl f32))), (q29, .inl (g.2 0, 20, .inl f30)), (q21, .inr (8, [w22, w23, w24, .ref q29, w26, w27, w28])), (q18, .inl (g.2 3, 10, .inr (.inr (.inr (.inr f19))))), (q14, .inr (10, [.ref q18, .int 0, w17])), (q1, .inr (11, [.ref q14, w4, w5, w6, w7, w8, w9, w10, w11, w12, w13]))] sz 0 (fun _ => [(q2, .inl (g.2 1, 1, .inr (.inl (vp_updL f32 0 100))))])) 0 0 (va_A [(q2, .inl (g.2 1, 1, .inr (.inl f32))), (q29, .inl (g.2 0, 20, .inl f30)), (q21, .inr (8, [w22, w23, w24, .ref q29, w26, w27, w28])), (q18, .inl (g.2 3, 10, .inr (.inr (.inr (.inr f19))))), (q14, .inr (10, [.ref q18, .int 0, w17])), (q1, .inr (11, [.ref q14, w4, w5, w6, w7, w8, w9, w10, w11, w12, w13]))] sz) := by
  refine ofH (by decide) (Nat.le_of_ble_eq_true rfl) rfl ?_
  intro p e s m args below meth c A ls hAe hsz hx hb hml hr hlocks hin hown hE hP hD hA hS hl htb hz
  have hown : s.vm.findClass RL = some m.cls := hown
  refine lv_aload_n hx hb dL_instrument_0 rfl (lv_at hl 3 rfl) ?_
  refine lv_iconst (v := 0) hx hb dL_instrument_1 (by decide) ?_
  refine lv_aload_n hx hb dL_instrument_2 rfl (lv_at hl 0 rfl) ?_
  refine lv_iload_n hx hb dL_instrument_3 rfl (lv_at hl 1 rfl) ?_
  refine lv_iload_n hx hb dL_instrument_4 rfl (lv_at hl 2 rfl) ?_
  refine g_i (wr := [(q2, .inl (g.2 1, 1, .inr (.inl f32)))]) (rV (rest := [.int 0, .ref q2]) hx hb hml hown hE hP hD 5 rfl rfl (c2164_X9_instrument l g q1 q14 q18 q21 q29 w4 w5 w6 w7 w8 w9 w10 w11 w12 w13 w17 w22 w23 w24 w26 w27 w28 f19 f30 (hf20) (hf31) s.heap.size) (kV_X9_instrument hE (e1015 hE) rfl rfl ⟨(Nat.le_of_ble_eq_true rfl), (Nat.le_of_ble_eq_true rfl)⟩) [1, 2, 3, 4, 5] rfl (by decide) rfl hl.1 rfl (lv_room (Nat.le_of_ble_eq_true rfl)) dL_instrument_5 ⟨(Nat.le_of_ble_eq_true rfl), (Nat.le_of_ble_eq_true rfl)⟩) hP hD hS hA [1, 2, 3, 4, 5] [0] rfl rfl (by decide) (by decide) (fun u1 H locs hP hD hS => ?_)
  have hP : va_P g.1 vwCl [(q2, .inl (g.2 1, 1, .inr (.inl f32))), (q1, .inr (11, [.ref q14, w4, w5, w6, w7, w8, w9, w10, w11, w12, w13])), (q18, .inl (g.2 3, 10, .inr (.inr (.inr (.inr f19))))), (q14, .inr (10, [.ref q18, .int 0, w17])), (q29, .inl (g.2 0, 20, .inl f30)), (q21, .inr (8, [w22, w23, w24, .ref q29, w26, w27, w28]))] H := hP
  have hD : va_D A [(q2, .inl (g.2 1, 1, .inr (.inl f32))), (q1, .inr (11, [.ref q14, w4, w5, w6, w7, w8, w9, w10, w11, w12, w13])), (q18, .inl (g.2 3, 10, .inr (.inr (.inr (.inr f19))))), (q14, .inr (10, [.ref q18, .int 0, w17])), (q29, .inl (g.2 0, 20, .inl f30)), (q21, .inr (8, [w22, w23, w24, .ref q29, w26, w27, w28]))] := hD
  refine lv_i2l (v := 100) hx hb dL_instrument_8 (by decide) ?_
  refine x_last (ws' := [(q2, .inl (g.2 1, 1, .inr (.inl (vp_updL f32 0 100)))), (q1, .inr (11, [.ref q14, w4, w5, w6, w7, w8, w9, w10, w11, w12, w13])), (q18, .inl (g.2 3, 10, .inr (.inr (.inr (.inr f19))))), (q14, .inr (10, [.ref q18, .int 0, w17])), (q29, .inl (g.2 0, 20, .inl f30)), (q21, .inr (8, [w22, w23, w24, .ref q29, w26, w27, w28]))]) hx hb hE hP hD hS 0 rfl 0 (x_in (by decide)) (by decide) dL_instrument_9 rfl (fun H locs hP hD hS => ?_)
  refine lv_goto (tgt := 21) hx hb dL_instrument_10 (by decide) ?_
  refine lv_iconst (v := 0) hx hb dL_instrument_21 (by decide) ?_
  exact x_zret hx hb hr rfl rfl hlocks hP hD hS hAe hsz (Nat.le_of_ble_eq_true rfl) (Nat.le_of_ble_eq_true rfl) (fun _ => 0) [0] (by decide) rfl dL_instrument_22

set_option maxHeartbeats 4000000 in
set_option maxRecDepth 100000 in
theorem c2166_X10_instrument (l : Launch) (g : gG) (q1 q39 : Nat) (w3 w4 w5 w6 w7 w8 w9 w10 w11 w12 w13 w14 w15 w16 w17 w18 w19 w20 w21 w22 w23 w24 w25 w26 w27 w28 w29 w30 w31 w32 w33 w34 w35 w36 w37 w38 : Value) (f40 : Nat → Int32) (hf41 : f40 392 = 0) (hf42 : f40 476 = 100) (sz : Nat) : Met l yX10_instrument [Cond.code yX10_instrument cX10_instrument 5 (some .int)] ({ frames := 2, cells := 0, slots := 0, locals := 42 } : Room) (va_Pc [.ref q1, .int 0, .int 2] (PX g sz [(q39, .inl (g.2 0, 497, .inl f40)), (q1, .inr (12, [.ref q39, w3, w4, w5, w6, w7, w8, w9, w10, w11, w12, w13, w14, w15, w16, w17, w18, w19, w20, w21, w22, w23, w24, w25, w26, w27, w28, w29, w30, w31, w32, w33, w34, w35, w36, w37, w38]))])) (QI g [(q39, .inl (g.2 0, 497, .inl f40)), (q1, .inr (12, [.ref q39, w3, w4, w5, w6, w7, w8, w9, w10, w11, w12, w13, w14, w15, w16, w17, w18, w19, w20, w21, w22, w23, w24, w25, w26, w27, w28, w29, w30, w31, w32, w33, w34, w35, w36, w37, w38]))] sz 100 (fun _ => [(q1, .inr (12, [.ref q39, w3, w4, w5, w6, w7, .int 0, w9, w10, w11, w12, w13, w14, w15, w16, w17, w18, w19, w20, w21, w22, w23, w24, w25, w26, w27, w28, w29, w30, w31, w32, w33, w34, w35, w36, w37, w38]))])) 0 0 (va_A [(q39, .inl (g.2 0, 497, .inl f40)), (q1, .inr (12, [.ref q39, w3, w4, w5, w6, w7, w8, w9, w10, w11, w12, w13, w14, w15, w16, w17, w18, w19, w20, w21, w22, w23, w24, w25, w26, w27, w28, w29, w30, w31, w32, w33, w34, w35, w36, w37, w38]))] sz) := by
  refine ofN (by decide) (Nat.le_of_ble_eq_true rfl) rfl ?_
  intro p e s m args below meth c A ls hAe hsz hx hb hml hr hlocks hin hown hE hP hD hA hS hl
  have hown : s.vm.findClass RX10 = some m.cls := hown
  refine lv_aload_n hx hb dX10_instrument_0 rfl (lv_at hl 0 rfl) ?_
  refine lv_iload_n hx hb dX10_instrument_1 rfl (lv_at hl 1 rfl) ?_
  refine g0_i (rS (rest := [.ref q1]) hx hb hml hown hE hP hD (c1857_X10_isInstrument l g 0 (by decide) (by decide) s.heap.size) (kS_X10_isInstrument hE (e1645 hE) rfl rfl ⟨(Nat.le_of_ble_eq_true rfl), (Nat.le_of_ble_eq_true rfl)⟩) [] rfl (by decide) rfl hl.1 rfl (lv_room (Nat.le_of_ble_eq_true rfl)) dX10_instrument_2 ⟨(Nat.le_of_ble_eq_true rfl), (Nat.le_of_ble_eq_true rfl)⟩) hP hD hS hA (fun u9 H locs hP hS => ?_)
  refine lv_if_ne (tgt := 12) hx hb dX10_instrument_5 (by decide) (fun _ => ?_) (fun h => absurd h (by decide))
  refine lv_iload_n hx hb dX10_instrument_12 rfl (lv_at hl 2 rfl) ?_
  refine lv_iconst (v := 0) hx hb dX10_instrument_13 (by decide) ?_
  refine lv_iconst (v := 5) hx hb dX10_instrument_14 (by decide) ?_
  refine g0_i (rS (rest := [.ref q1]) hx hb hml hown hE hP hD (c971_X10_in l g 2 (by decide) (by decide) H.size) (kS_X10_in hE (e1431 hE) rfl rfl ⟨(Nat.le_of_ble_eq_true rfl), (Nat.le_of_ble_eq_true rfl)⟩) [] rfl (by decide) rfl hl.1 rfl (lv_room (Nat.le_of_ble_eq_true rfl)) dX10_instrument_15 ⟨(Nat.le_of_ble_eq_true rfl), (Nat.le_of_ble_eq_true rfl)⟩) hP hD hS hA (fun u9 H locs hP hS => ?_)
  refine lv_if_ne (tgt := 25) hx hb dX10_instrument_18 (by decide) (fun _ => ?_) (fun h => absurd h (by decide))
  refine lv_iconst (v := 0) hx hb dX10_instrument_25 (by decide) ?_
  refine pf_RX10_86 (ws' := [(q39, .inl (g.2 0, 497, .inl f40)), (q1, .inr (12, [.ref q39, w3, w4, w5, w6, w7, .int 0, w9, w10, w11, w12, w13, w14, w15, w16, w17, w18, w19, w20, w21, w22, w23, w24, w25, w26, w27, w28, w29, w30, w31, w32, w33, w34, w35, w36, w37, w38]))]) hx hb hown hE hP hD hS 1 rfl rfl rfl (Nat.le_of_ble_eq_true rfl) dX10_instrument_26 rfl (fun H locs hP hD hS => ?_)
  refine lv_aload_n hx hb dX10_instrument_29 rfl (lv_at hl 0 rfl) ?_
  refine gf_RX10_86 hx hb hown hE hP 1 rfl rfl dX10_instrument_30 ?_
  refine lv_if_le (tgt := 38) hx hb dX10_instrument_33 (by decide) (fun _ => ?_) (fun h => absurd (by decide) h)
  refine lv_iconst (v := 0) hx hb dX10_instrument_38 (by decide) ?_
  refine lv_istore_n (lv' := [(3, .int 0), (0, .ref q1), (1, .int 0), (2, .int 2)]) hx hb dX10_instrument_39 rfl hl (by decide) rfl (fun ls hl => ?_)
  refine lv_iconst (v := 0) hx hb dX10_instrument_40 (by decide) ?_
  refine lv_istore (lv' := [(4, .int 0), (3, .int 0), (0, .ref q1), (1, .int 0), (2, .int 2)]) hx hb dX10_instrument_41 hl (by decide) rfl (fun ls hl => ?_)
  refine lv_iload hx hb dX10_instrument_43 (lv_at hl 0 rfl) ?_
  refine lv_aload_n hx hb dX10_instrument_45 rfl (lv_at hl 2 rfl) ?_
  refine gf_RX10_9 hx hb hown hE hP 1 rfl rfl dX10_instrument_46 ?_
  refine lv_sipush (v := 392) hx hb dX10_instrument_49 (by decide) ?_
  refine x_iald (v := 0) hx hb hE hP 0 rfl 392 (x_in (by decide)) (by decide) hf41 dX10_instrument_52 ?_
  refine lv_icmp_ge (tgt := 81) hx hb dX10_instrument_53 (by decide) (fun _ => ?_) (fun h => absurd (by decide) h)
  refine lv_iload_n hx hb dX10_instrument_81 rfl (lv_at hl 4 rfl) ?_
  refine lv_iconst (v := 5) hx hb dX10_instrument_82 (by decide) ?_
  refine lv_icmp_ne (tgt := 90) hx hb dX10_instrument_83 (by decide) (fun _ => ?_) (fun h => absurd h (by decide))
  refine lv_aload_n hx hb dX10_instrument_90 rfl (lv_at hl 2 rfl) ?_
  refine gf_RX10_9 hx hb hown hE hP 1 rfl rfl dX10_instrument_91 ?_
  refine lv_sipush (v := 474) hx hb dX10_instrument_94 (by decide) ?_
  refine lv_iconst (v := 5) hx hb dX10_instrument_97 (by decide) ?_
  refine lv_iload_n hx hb dX10_instrument_98 rfl (lv_at hl 3 rfl) ?_
  refine x_imul (v := 0) hx hb dX10_instrument_99 (by decide) ?_
  refine x_iadd (v := 474) hx hb dX10_instrument_100 (by decide) ?_
  refine lv_iload_n hx hb dX10_instrument_101 rfl (lv_at hl 4 rfl) ?_
  refine x_iadd (v := 476) hx hb dX10_instrument_102 (by decide) ?_
  refine x_iald (v := 100) hx hb hE hP 0 rfl 476 (x_in (by decide)) (by decide) hf42 dX10_instrument_103 ?_
  exact x_zret hx hb hr rfl rfl hlocks hP hD hS hAe hsz (Nat.le_of_ble_eq_true rfl) (Nat.le_of_ble_eq_true rfl) (fun _ => 0) [1] (by decide) rfl dX10_instrument_104

set_option maxHeartbeats 4000000 in
set_option maxRecDepth 100000 in
theorem c2167_X9_instrument (l : Launch) (g : gG) (q1 q13 q17 q20 q28 : Nat) (w3 w4 w5 w6 w7 w8 w9 w10 w11 w12 w16 w21 w22 w23 w25 w26 w27 : Value) (f18 : Nat → Option Nat) (f29 : Nat → Int32) (hf19 : f18 0 = some q20) (hf30 : f29 3 = 0) (sz : Nat) : Met l yX9_instrument [Cond.code yX9_instrument cX9_instrument 4 (some .int)] ({ frames := 2, cells := 0, slots := 0, locals := 42 } : Room) (va_Pc [.ref q1, .int 0, .int 3] (PX g sz [(q28, .inl (g.2 0, 20, .inl f29)), (q20, .inr (8, [w21, w22, w23, .ref q28, w25, w26, w27])), (q17, .inl (g.2 3, 10, .inr (.inr (.inr (.inr f18))))), (q13, .inr (10, [.ref q17, .int 0, w16])), (q1, .inr (11, [.ref q13, w3, w4, w5, w6, w7, w8, w9, w10, w11, w12]))])) (QI g [(q28, .inl (g.2 0, 20, .inl f29)), (q20, .inr (8, [w21, w22, w23, .ref q28, w25, w26, w27])), (q17, .inl (g.2 3, 10, .inr (.inr (.inr (.inr f18))))), (q13, .inr (10, [.ref q17, .int 0, w16])), (q1, .inr (11, [.ref q13, w3, w4, w5, w6, w7, w8, w9, w10, w11, w12]))] sz 0 (fun _ => [(q1, .inr (11, [.ref q13, w3, w4, w5, w6, w7, w8, w9, w10, w11, w12])), (q17, .inl (g.2 3, 10, .inr (.inr (.inr (.inr f18))))), (q13, .inr (10, [.ref q17, .int 0, w16])), (q28, .inl (g.2 0, 20, .inl f29)), (q20, .inr (8, [w21, w22, w23, .ref q28, w25, w26, w27]))])) 0 0 (va_A [(q28, .inl (g.2 0, 20, .inl f29)), (q20, .inr (8, [w21, w22, w23, .ref q28, w25, w26, w27])), (q17, .inl (g.2 3, 10, .inr (.inr (.inr (.inr f18))))), (q13, .inr (10, [.ref q17, .int 0, w16])), (q1, .inr (11, [.ref q13, w3, w4, w5, w6, w7, w8, w9, w10, w11, w12]))] sz) := by
  refine ofN (by decide) (Nat.le_of_ble_eq_true rfl) rfl ?_
  intro p e s m args below meth c A ls hAe hsz hx hb hml hr hlocks hin hown hE hP hD hA hS hl
  have hown : s.vm.findClass RX9 = some m.cls := hown
  refine lv_iload_n hx hb dX9_instrument_0 rfl (lv_at hl 1 rfl) ?_
  refine g0_v (rS (rest := []) hx hb hml hown hE hP hD (c1854_X9_requireInstrument l g 0 (by decide) (by decide) s.heap.size) (kS_X9_requireInstrument hE (e991 hE) rfl rfl ⟨(Nat.le_of_ble_eq_true rfl), (Nat.le_of_ble_eq_true rfl)⟩) [] rfl (by decide) rfl hl.1 rfl (lv_room (Nat.le_of_ble_eq_true rfl)) dX9_instrument_1 ⟨(Nat.le_of_ble_eq_true rfl), (Nat.le_of_ble_eq_true rfl)⟩) hP hD hS hA (fun u9 H locs hP hS => ?_)
  refine lv_iload_n hx hb dX9_instrument_4 rfl (lv_at hl 2 rfl) ?_
  refine lv_iconst (v := 0) hx hb dX9_instrument_5 (by decide) ?_
  refine lv_iconst (v := 5) hx hb dX9_instrument_6 (by decide) ?_
  refine g0_v (rS (rest := []) hx hb hml hown hE hP hD (c968_X9_requireRange l g 3 (by decide) (by decide) H.size) (kS_X9_requireRange hE (e636 hE) rfl rfl ⟨(Nat.le_of_ble_eq_true rfl), (Nat.le_of_ble_eq_true rfl)⟩) [] rfl (by decide) rfl hl.1 rfl (lv_room (Nat.le_of_ble_eq_true rfl)) dX9_instrument_7 ⟨(Nat.le_of_ble_eq_true rfl), (Nat.le_of_ble_eq_true rfl)⟩) hP hD hS hA (fun u9 H locs hP hS => ?_)
  refine lv_aload_n hx hb dX9_instrument_10 rfl (lv_at hl 0 rfl) ?_
  refine gf_RX9_12 hx hb hown hE hP 4 rfl rfl dX9_instrument_11 ?_
  refine g_r (wr := [(q28, .inl (g.2 0, 20, .inl f29)), (q20, .inr (8, [w21, w22, w23, .ref q28, w25, w26, w27])), (q1, .inr (11, [.ref q13, w3, w4, w5, w6, w7, w8, w9, w10, w11, w12]))]) (rV (rest := []) hx hb hml hown hE hP hD 3 rfl rfl (c71_X8_current l g q13 q17 q20 w16 f18 (hf19) H.size) (kV_X8_current hE (e290 hE) rfl rfl ⟨(Nat.le_of_ble_eq_true rfl), (Nat.le_of_ble_eq_true rfl)⟩) [2, 3] rfl (by decide) rfl hl.1 rfl (lv_room (Nat.le_of_ble_eq_true rfl)) dX9_instrument_14 ⟨(Nat.le_of_ble_eq_true rfl), (Nat.le_of_ble_eq_true rfl)⟩) hP hD hS hA [2, 3] [0, 1, 4] rfl rfl (by decide) (by decide) (fun u3 H locs hP hD hS => ?_)
  have hP : va_P g.1 vwCl [(q28, .inl (g.2 0, 20, .inl f29)), (q20, .inr (8, [w21, w22, w23, .ref q28, w25, w26, w27])), (q1, .inr (11, [.ref q13, w3, w4, w5, w6, w7, w8, w9, w10, w11, w12])), (q17, .inl (g.2 3, 10, .inr (.inr (.inr (.inr f18))))), (q13, .inr (10, [.ref q17, .int 0, w16]))] H := hP
  have hD : va_D A [(q28, .inl (g.2 0, 20, .inl f29)), (q20, .inr (8, [w21, w22, w23, .ref q28, w25, w26, w27])), (q1, .inr (11, [.ref q13, w3, w4, w5, w6, w7, w8, w9, w10, w11, w12])), (q17, .inl (g.2 3, 10, .inr (.inr (.inr (.inr f18))))), (q13, .inr (10, [.ref q17, .int 0, w16]))] := hD
  refine lv_astore_n (lv' := [(3, .ref q20), (0, .ref q1), (1, .int 0), (2, .int 3)]) hx hb dX9_instrument_17 rfl hl (by decide) rfl (fun ls hl => ?_)
  refine lv_iload_n hx hb dX9_instrument_18 rfl (lv_at hl 3 rfl) ?_
  refine lv_iconst (v := 5) hx hb dX9_instrument_19 (by decide) ?_
  refine lv_icmp_ne (tgt := 29) hx hb dX9_instrument_20 (by decide) (fun _ => ?_) (fun h => absurd h (by decide))
  refine lv_aload_n hx hb dX9_instrument_29 rfl (lv_at hl 0 rfl) ?_
  refine lv_iload_n hx hb dX9_instrument_30 rfl (lv_at hl 2 rfl) ?_
  refine lv_iload_n hx hb dX9_instrument_31 rfl (lv_at hl 3 rfl) ?_
  refine g_i (wr := [(q1, .inr (11, [.ref q13, w3, w4, w5, w6, w7, w8, w9, w10, w11, w12])), (q17, .inl (g.2 3, 10, .inr (.inr (.inr (.inr f18))))), (q13, .inr (10, [.ref q17, .int 0, w16]))]) (rV (rest := []) hx hb hml hown hE hP hD 1 rfl rfl (c1882_X6_instrumentNumber l g q20 q28 0 w21 w22 w23 w25 w26 w27 f29 (hf30) H.size) (kV_X6_instrumentNumber hE (e1010 hE) rfl rfl ⟨(Nat.le_of_ble_eq_true rfl), (Nat.le_of_ble_eq_true rfl)⟩) [0, 1] rfl (by decide) rfl hl.1 rfl (lv_room (Nat.le_of_ble_eq_true rfl)) dX9_instrument_32 ⟨(Nat.le_of_ble_eq_true rfl), (Nat.le_of_ble_eq_true rfl)⟩) hP hD hS hA [0, 1] [2, 3, 4] rfl rfl (by decide) (by decide) (fun u4 H locs hP hD hS => ?_)
  have hP : va_P g.1 vwCl [(q1, .inr (11, [.ref q13, w3, w4, w5, w6, w7, w8, w9, w10, w11, w12])), (q17, .inl (g.2 3, 10, .inr (.inr (.inr (.inr f18))))), (q13, .inr (10, [.ref q17, .int 0, w16])), (q28, .inl (g.2 0, 20, .inl f29)), (q20, .inr (8, [w21, w22, w23, .ref q28, w25, w26, w27]))] H := hP
  have hD : va_D A [(q1, .inr (11, [.ref q13, w3, w4, w5, w6, w7, w8, w9, w10, w11, w12])), (q17, .inl (g.2 3, 10, .inr (.inr (.inr (.inr f18))))), (q13, .inr (10, [.ref q17, .int 0, w16])), (q28, .inl (g.2 0, 20, .inl f29)), (q20, .inr (8, [w21, w22, w23, .ref q28, w25, w26, w27]))] := hD
  exact x_zret hx hb hr rfl rfl hlocks hP hD hS hAe hsz (Nat.le_of_ble_eq_true rfl) (Nat.le_of_ble_eq_true rfl) (fun _ => 0) [0, 1, 2, 3, 4] (by decide) rfl dX9_instrument_35

set_option maxHeartbeats 4000000 in
set_option maxRecDepth 100000 in
theorem c2168_L_instrument (l : Launch) (g : gG) (hlx : l.stackTraces = false) (q1 q2 q14 q18 q21 q29 : Nat) (w4 w5 w6 w7 w8 w9 w10 w11 w12 w13 w17 w22 w23 w24 w26 w27 w28 : Value) (f19 : Nat → Option Nat) (f30 : Nat → Int32) (f32 : Nat → Int64) (hf20 : f19 0 = some q21) (hf31 : f30 3 = 0) (sz : Nat) : Met l yL_instrument [Cond.codeWith yL_instrument cL_instrument 5 (some .int) [(0, 10, 13, 13), (0, 10, 17, 15)]] ({ frames := 3, cells := 0, slots := 0, locals := 65 } : Room) (va_Pc [.ref q1, .int 0, .int 3, .ref q2] (PZ g sz [(q2, .inl (g.2 1, 1, .inr (.inl f32))), (q29, .inl (g.2 0, 20, .inl f30)), (q21, .inr (8, [w22, w23, w24, .ref q29, w26, w27, w28])), (q18, .inl (g.2 3, 10, .inr (.inr (.inr (.inr f19))))), (q14, .inr (10, [.ref q18, .int 0, w17])), (q1, .inr (11, [.ref q14, w4, w5, w6, w7, w8, w9, w10, w11, w12, w13]))])) (QI g [(q2, .inl (g.2 1, 1, .inr (.inl f32))), (q29, .inl (g.2 0, 20, .inl f30)), (q21, .inr (8, [w22, w23, w24, .ref q29, w26, w27, w28])), (q18, .inl (g.2 3, 10, .inr (.inr (.inr (.inr f19))))), (q14, .inr (10, [.ref q18, .int 0, w17])), (q1, .inr (11, [.ref q14, w4, w5, w6, w7, w8, w9, w10, w11, w12, w13]))] sz 0 (fun _ => [(q2, .inl (g.2 1, 1, .inr (.inl (vp_updL f32 0 0))))])) 0 0 (va_A [(q2, .inl (g.2 1, 1, .inr (.inl f32))), (q29, .inl (g.2 0, 20, .inl f30)), (q21, .inr (8, [w22, w23, w24, .ref q29, w26, w27, w28])), (q18, .inl (g.2 3, 10, .inr (.inr (.inr (.inr f19))))), (q14, .inr (10, [.ref q18, .int 0, w17])), (q1, .inr (11, [.ref q14, w4, w5, w6, w7, w8, w9, w10, w11, w12, w13]))] sz) := by
  refine ofH (by decide) (Nat.le_of_ble_eq_true rfl) rfl ?_
  intro p e s m args below meth c A ls hAe hsz hx hb hml hr hlocks hin hown hE hP hD hA hS hl htb hz
  have hown : s.vm.findClass RL = some m.cls := hown
  refine lv_aload_n hx hb dL_instrument_0 rfl (lv_at hl 3 rfl) ?_
  refine lv_iconst (v := 0) hx hb dL_instrument_1 (by decide) ?_
  refine lv_aload_n hx hb dL_instrument_2 rfl (lv_at hl 0 rfl) ?_
  refine lv_iload_n hx hb dL_instrument_3 rfl (lv_at hl 1 rfl) ?_
  refine lv_iload_n hx hb dL_instrument_4 rfl (lv_at hl 2 rfl) ?_
  refine g_i (wr := [(q2, .inl (g.2 1, 1, .inr (.inl f32)))]) (rV (rest := [.int 0, .ref q2]) hx hb hml hown hE hP hD 5 rfl rfl (c2167_X9_instrument l g q1 q14 q18 q21 q29 w4 w5 w6 w7 w8 w9 w10 w11 w12 w13 w17 w22 w23 w24 w26 w27 w28 f19 f30 (hf20) (hf31) s.heap.size) (kV_X9_instrument hE (e1015 hE) rfl rfl ⟨(Nat.le_of_ble_eq_true rfl), (Nat.le_of_ble_eq_true rfl)⟩) [1, 2, 3, 4, 5] rfl (by decide) rfl hl.1 rfl (lv_room (Nat.le_of_ble_eq_true rfl)) dL_instrument_5 ⟨(Nat.le_of_ble_eq_true rfl), (Nat.le_of_ble_eq_true rfl)⟩) hP hD hS hA [1, 2, 3, 4, 5] [0] rfl rfl (by decide) (by decide) (fun u1 H locs hP hD hS => ?_)
  have hP : va_P g.1 vwCl [(q2, .inl (g.2 1, 1, .inr (.inl f32))), (q1, .inr (11, [.ref q14, w4, w5, w6, w7, w8, w9, w10, w11, w12, w13])), (q18, .inl (g.2 3, 10, .inr (.inr (.inr (.inr f19))))), (q14, .inr (10, [.ref q18, .int 0, w17])), (q29, .inl (g.2 0, 20, .inl f30)), (q21, .inr (8, [w22, w23, w24, .ref q29, w26, w27, w28]))] H := hP
  have hD : va_D A [(q2, .inl (g.2 1, 1, .inr (.inl f32))), (q1, .inr (11, [.ref q14, w4, w5, w6, w7, w8, w9, w10, w11, w12, w13])), (q18, .inl (g.2 3, 10, .inr (.inr (.inr (.inr f19))))), (q14, .inr (10, [.ref q18, .int 0, w17])), (q29, .inl (g.2 0, 20, .inl f30)), (q21, .inr (8, [w22, w23, w24, .ref q29, w26, w27, w28]))] := hD
  refine lv_i2l (v := 0) hx hb dL_instrument_8 (by decide) ?_
  refine x_last (ws' := [(q2, .inl (g.2 1, 1, .inr (.inl (vp_updL f32 0 0)))), (q1, .inr (11, [.ref q14, w4, w5, w6, w7, w8, w9, w10, w11, w12, w13])), (q18, .inl (g.2 3, 10, .inr (.inr (.inr (.inr f19))))), (q14, .inr (10, [.ref q18, .int 0, w17])), (q29, .inl (g.2 0, 20, .inl f30)), (q21, .inr (8, [w22, w23, w24, .ref q29, w26, w27, w28]))]) hx hb hE hP hD hS 0 rfl 0 (x_in (by decide)) (by decide) dL_instrument_9 rfl (fun H locs hP hD hS => ?_)
  refine lv_goto (tgt := 21) hx hb dL_instrument_10 (by decide) ?_
  refine lv_iconst (v := 0) hx hb dL_instrument_21 (by decide) ?_
  exact x_zret hx hb hr rfl rfl hlocks hP hD hS hAe hsz (Nat.le_of_ble_eq_true rfl) (Nat.le_of_ble_eq_true rfl) (fun _ => 0) [0] (by decide) rfl dL_instrument_22

set_option maxHeartbeats 4000000 in
set_option maxRecDepth 100000 in
theorem c2169_X10_instrument (l : Launch) (g : gG) (q1 q39 : Nat) (w3 w4 w5 w6 w7 w8 w9 w10 w11 w12 w13 w14 w15 w16 w17 w18 w19 w20 w21 w22 w23 w24 w25 w26 w27 w28 w29 w30 w31 w32 w33 w34 w35 w36 w37 w38 : Value) (f40 : Nat → Int32) (hf41 : f40 392 = 0) (hf42 : f40 477 = 0) (sz : Nat) : Met l yX10_instrument [Cond.code yX10_instrument cX10_instrument 5 (some .int)] ({ frames := 2, cells := 0, slots := 0, locals := 42 } : Room) (va_Pc [.ref q1, .int 0, .int 3] (PX g sz [(q39, .inl (g.2 0, 497, .inl f40)), (q1, .inr (12, [.ref q39, w3, w4, w5, w6, w7, w8, w9, w10, w11, w12, w13, w14, w15, w16, w17, w18, w19, w20, w21, w22, w23, w24, w25, w26, w27, w28, w29, w30, w31, w32, w33, w34, w35, w36, w37, w38]))])) (QI g [(q39, .inl (g.2 0, 497, .inl f40)), (q1, .inr (12, [.ref q39, w3, w4, w5, w6, w7, w8, w9, w10, w11, w12, w13, w14, w15, w16, w17, w18, w19, w20, w21, w22, w23, w24, w25, w26, w27, w28, w29, w30, w31, w32, w33, w34, w35, w36, w37, w38]))] sz 0 (fun _ => [(q1, .inr (12, [.ref q39, w3, w4, w5, w6, w7, .int 0, w9, w10, w11, w12, w13, w14, w15, w16, w17, w18, w19, w20, w21, w22, w23, w24, w25, w26, w27, w28, w29, w30, w31, w32, w33, w34, w35, w36, w37, w38]))])) 0 0 (va_A [(q39, .inl (g.2 0, 497, .inl f40)), (q1, .inr (12, [.ref q39, w3, w4, w5, w6, w7, w8, w9, w10, w11, w12, w13, w14, w15, w16, w17, w18, w19, w20, w21, w22, w23, w24, w25, w26, w27, w28, w29, w30, w31, w32, w33, w34, w35, w36, w37, w38]))] sz) := by
  refine ofN (by decide) (Nat.le_of_ble_eq_true rfl) rfl ?_
  intro p e s m args below meth c A ls hAe hsz hx hb hml hr hlocks hin hown hE hP hD hA hS hl
  have hown : s.vm.findClass RX10 = some m.cls := hown
  refine lv_aload_n hx hb dX10_instrument_0 rfl (lv_at hl 0 rfl) ?_
  refine lv_iload_n hx hb dX10_instrument_1 rfl (lv_at hl 1 rfl) ?_
  refine g0_i (rS (rest := [.ref q1]) hx hb hml hown hE hP hD (c1857_X10_isInstrument l g 0 (by decide) (by decide) s.heap.size) (kS_X10_isInstrument hE (e1645 hE) rfl rfl ⟨(Nat.le_of_ble_eq_true rfl), (Nat.le_of_ble_eq_true rfl)⟩) [] rfl (by decide) rfl hl.1 rfl (lv_room (Nat.le_of_ble_eq_true rfl)) dX10_instrument_2 ⟨(Nat.le_of_ble_eq_true rfl), (Nat.le_of_ble_eq_true rfl)⟩) hP hD hS hA (fun u9 H locs hP hS => ?_)
  refine lv_if_ne (tgt := 12) hx hb dX10_instrument_5 (by decide) (fun _ => ?_) (fun h => absurd h (by decide))
  refine lv_iload_n hx hb dX10_instrument_12 rfl (lv_at hl 2 rfl) ?_
  refine lv_iconst (v := 0) hx hb dX10_instrument_13 (by decide) ?_
  refine lv_iconst (v := 5) hx hb dX10_instrument_14 (by decide) ?_
  refine g0_i (rS (rest := [.ref q1]) hx hb hml hown hE hP hD (c971_X10_in l g 3 (by decide) (by decide) H.size) (kS_X10_in hE (e1431 hE) rfl rfl ⟨(Nat.le_of_ble_eq_true rfl), (Nat.le_of_ble_eq_true rfl)⟩) [] rfl (by decide) rfl hl.1 rfl (lv_room (Nat.le_of_ble_eq_true rfl)) dX10_instrument_15 ⟨(Nat.le_of_ble_eq_true rfl), (Nat.le_of_ble_eq_true rfl)⟩) hP hD hS hA (fun u9 H locs hP hS => ?_)
  refine lv_if_ne (tgt := 25) hx hb dX10_instrument_18 (by decide) (fun _ => ?_) (fun h => absurd h (by decide))
  refine lv_iconst (v := 0) hx hb dX10_instrument_25 (by decide) ?_
  refine pf_RX10_86 (ws' := [(q39, .inl (g.2 0, 497, .inl f40)), (q1, .inr (12, [.ref q39, w3, w4, w5, w6, w7, .int 0, w9, w10, w11, w12, w13, w14, w15, w16, w17, w18, w19, w20, w21, w22, w23, w24, w25, w26, w27, w28, w29, w30, w31, w32, w33, w34, w35, w36, w37, w38]))]) hx hb hown hE hP hD hS 1 rfl rfl rfl (Nat.le_of_ble_eq_true rfl) dX10_instrument_26 rfl (fun H locs hP hD hS => ?_)
  refine lv_aload_n hx hb dX10_instrument_29 rfl (lv_at hl 0 rfl) ?_
  refine gf_RX10_86 hx hb hown hE hP 1 rfl rfl dX10_instrument_30 ?_
  refine lv_if_le (tgt := 38) hx hb dX10_instrument_33 (by decide) (fun _ => ?_) (fun h => absurd (by decide) h)
  refine lv_iconst (v := 0) hx hb dX10_instrument_38 (by decide) ?_
  refine lv_istore_n (lv' := [(3, .int 0), (0, .ref q1), (1, .int 0), (2, .int 3)]) hx hb dX10_instrument_39 rfl hl (by decide) rfl (fun ls hl => ?_)
  refine lv_iconst (v := 0) hx hb dX10_instrument_40 (by decide) ?_
  refine lv_istore (lv' := [(4, .int 0), (3, .int 0), (0, .ref q1), (1, .int 0), (2, .int 3)]) hx hb dX10_instrument_41 hl (by decide) rfl (fun ls hl => ?_)
  refine lv_iload hx hb dX10_instrument_43 (lv_at hl 0 rfl) ?_
  refine lv_aload_n hx hb dX10_instrument_45 rfl (lv_at hl 2 rfl) ?_
  refine gf_RX10_9 hx hb hown hE hP 1 rfl rfl dX10_instrument_46 ?_
  refine lv_sipush (v := 392) hx hb dX10_instrument_49 (by decide) ?_
  refine x_iald (v := 0) hx hb hE hP 0 rfl 392 (x_in (by decide)) (by decide) hf41 dX10_instrument_52 ?_
  refine lv_icmp_ge (tgt := 81) hx hb dX10_instrument_53 (by decide) (fun _ => ?_) (fun h => absurd (by decide) h)
  refine lv_iload_n hx hb dX10_instrument_81 rfl (lv_at hl 4 rfl) ?_
  refine lv_iconst (v := 5) hx hb dX10_instrument_82 (by decide) ?_
  refine lv_icmp_ne (tgt := 90) hx hb dX10_instrument_83 (by decide) (fun _ => ?_) (fun h => absurd h (by decide))
  refine lv_aload_n hx hb dX10_instrument_90 rfl (lv_at hl 2 rfl) ?_
  refine gf_RX10_9 hx hb hown hE hP 1 rfl rfl dX10_instrument_91 ?_
  refine lv_sipush (v := 474) hx hb dX10_instrument_94 (by decide) ?_
  refine lv_iconst (v := 5) hx hb dX10_instrument_97 (by decide) ?_
  refine lv_iload_n hx hb dX10_instrument_98 rfl (lv_at hl 3 rfl) ?_
  refine x_imul (v := 0) hx hb dX10_instrument_99 (by decide) ?_
  refine x_iadd (v := 474) hx hb dX10_instrument_100 (by decide) ?_
  refine lv_iload_n hx hb dX10_instrument_101 rfl (lv_at hl 4 rfl) ?_
  refine x_iadd (v := 477) hx hb dX10_instrument_102 (by decide) ?_
  refine x_iald (v := 0) hx hb hE hP 0 rfl 477 (x_in (by decide)) (by decide) hf42 dX10_instrument_103 ?_
  exact x_zret hx hb hr rfl rfl hlocks hP hD hS hAe hsz (Nat.le_of_ble_eq_true rfl) (Nat.le_of_ble_eq_true rfl) (fun _ => 0) [1] (by decide) rfl dX10_instrument_104

set_option maxHeartbeats 4000000 in
set_option maxRecDepth 100000 in
theorem c2170_X9_instrument (l : Launch) (g : gG) (q1 q13 q17 q20 q28 : Nat) (w3 w4 w5 w6 w7 w8 w9 w10 w11 w12 w16 w21 w22 w23 w25 w26 w27 : Value) (f18 : Nat → Option Nat) (f29 : Nat → Int32) (hf19 : f18 0 = some q20) (hf30 : f29 4 = 5) (sz : Nat) : Met l yX9_instrument [Cond.code yX9_instrument cX9_instrument 4 (some .int)] ({ frames := 2, cells := 0, slots := 0, locals := 42 } : Room) (va_Pc [.ref q1, .int 0, .int 4] (PX g sz [(q28, .inl (g.2 0, 20, .inl f29)), (q20, .inr (8, [w21, w22, w23, .ref q28, w25, w26, w27])), (q17, .inl (g.2 3, 10, .inr (.inr (.inr (.inr f18))))), (q13, .inr (10, [.ref q17, .int 0, w16])), (q1, .inr (11, [.ref q13, w3, w4, w5, w6, w7, w8, w9, w10, w11, w12]))])) (QI g [(q28, .inl (g.2 0, 20, .inl f29)), (q20, .inr (8, [w21, w22, w23, .ref q28, w25, w26, w27])), (q17, .inl (g.2 3, 10, .inr (.inr (.inr (.inr f18))))), (q13, .inr (10, [.ref q17, .int 0, w16])), (q1, .inr (11, [.ref q13, w3, w4, w5, w6, w7, w8, w9, w10, w11, w12]))] sz 5 (fun _ => [(q1, .inr (11, [.ref q13, w3, w4, w5, w6, w7, w8, w9, w10, w11, w12])), (q17, .inl (g.2 3, 10, .inr (.inr (.inr (.inr f18))))), (q13, .inr (10, [.ref q17, .int 0, w16])), (q28, .inl (g.2 0, 20, .inl f29)), (q20, .inr (8, [w21, w22, w23, .ref q28, w25, w26, w27]))])) 0 0 (va_A [(q28, .inl (g.2 0, 20, .inl f29)), (q20, .inr (8, [w21, w22, w23, .ref q28, w25, w26, w27])), (q17, .inl (g.2 3, 10, .inr (.inr (.inr (.inr f18))))), (q13, .inr (10, [.ref q17, .int 0, w16])), (q1, .inr (11, [.ref q13, w3, w4, w5, w6, w7, w8, w9, w10, w11, w12]))] sz) := by
  refine ofN (by decide) (Nat.le_of_ble_eq_true rfl) rfl ?_
  intro p e s m args below meth c A ls hAe hsz hx hb hml hr hlocks hin hown hE hP hD hA hS hl
  have hown : s.vm.findClass RX9 = some m.cls := hown
  refine lv_iload_n hx hb dX9_instrument_0 rfl (lv_at hl 1 rfl) ?_
  refine g0_v (rS (rest := []) hx hb hml hown hE hP hD (c1854_X9_requireInstrument l g 0 (by decide) (by decide) s.heap.size) (kS_X9_requireInstrument hE (e991 hE) rfl rfl ⟨(Nat.le_of_ble_eq_true rfl), (Nat.le_of_ble_eq_true rfl)⟩) [] rfl (by decide) rfl hl.1 rfl (lv_room (Nat.le_of_ble_eq_true rfl)) dX9_instrument_1 ⟨(Nat.le_of_ble_eq_true rfl), (Nat.le_of_ble_eq_true rfl)⟩) hP hD hS hA (fun u9 H locs hP hS => ?_)
  refine lv_iload_n hx hb dX9_instrument_4 rfl (lv_at hl 2 rfl) ?_
  refine lv_iconst (v := 0) hx hb dX9_instrument_5 (by decide) ?_
  refine lv_iconst (v := 5) hx hb dX9_instrument_6 (by decide) ?_
  refine g0_v (rS (rest := []) hx hb hml hown hE hP hD (c968_X9_requireRange l g 4 (by decide) (by decide) H.size) (kS_X9_requireRange hE (e636 hE) rfl rfl ⟨(Nat.le_of_ble_eq_true rfl), (Nat.le_of_ble_eq_true rfl)⟩) [] rfl (by decide) rfl hl.1 rfl (lv_room (Nat.le_of_ble_eq_true rfl)) dX9_instrument_7 ⟨(Nat.le_of_ble_eq_true rfl), (Nat.le_of_ble_eq_true rfl)⟩) hP hD hS hA (fun u9 H locs hP hS => ?_)
  refine lv_aload_n hx hb dX9_instrument_10 rfl (lv_at hl 0 rfl) ?_
  refine gf_RX9_12 hx hb hown hE hP 4 rfl rfl dX9_instrument_11 ?_
  refine g_r (wr := [(q28, .inl (g.2 0, 20, .inl f29)), (q20, .inr (8, [w21, w22, w23, .ref q28, w25, w26, w27])), (q1, .inr (11, [.ref q13, w3, w4, w5, w6, w7, w8, w9, w10, w11, w12]))]) (rV (rest := []) hx hb hml hown hE hP hD 3 rfl rfl (c71_X8_current l g q13 q17 q20 w16 f18 (hf19) H.size) (kV_X8_current hE (e290 hE) rfl rfl ⟨(Nat.le_of_ble_eq_true rfl), (Nat.le_of_ble_eq_true rfl)⟩) [2, 3] rfl (by decide) rfl hl.1 rfl (lv_room (Nat.le_of_ble_eq_true rfl)) dX9_instrument_14 ⟨(Nat.le_of_ble_eq_true rfl), (Nat.le_of_ble_eq_true rfl)⟩) hP hD hS hA [2, 3] [0, 1, 4] rfl rfl (by decide) (by decide) (fun u3 H locs hP hD hS => ?_)
  have hP : va_P g.1 vwCl [(q28, .inl (g.2 0, 20, .inl f29)), (q20, .inr (8, [w21, w22, w23, .ref q28, w25, w26, w27])), (q1, .inr (11, [.ref q13, w3, w4, w5, w6, w7, w8, w9, w10, w11, w12])), (q17, .inl (g.2 3, 10, .inr (.inr (.inr (.inr f18))))), (q13, .inr (10, [.ref q17, .int 0, w16]))] H := hP
  have hD : va_D A [(q28, .inl (g.2 0, 20, .inl f29)), (q20, .inr (8, [w21, w22, w23, .ref q28, w25, w26, w27])), (q1, .inr (11, [.ref q13, w3, w4, w5, w6, w7, w8, w9, w10, w11, w12])), (q17, .inl (g.2 3, 10, .inr (.inr (.inr (.inr f18))))), (q13, .inr (10, [.ref q17, .int 0, w16]))] := hD
  refine lv_astore_n (lv' := [(3, .ref q20), (0, .ref q1), (1, .int 0), (2, .int 4)]) hx hb dX9_instrument_17 rfl hl (by decide) rfl (fun ls hl => ?_)
  refine lv_iload_n hx hb dX9_instrument_18 rfl (lv_at hl 3 rfl) ?_
  refine lv_iconst (v := 5) hx hb dX9_instrument_19 (by decide) ?_
  refine lv_icmp_ne (tgt := 29) hx hb dX9_instrument_20 (by decide) (fun _ => ?_) (fun h => absurd h (by decide))
  refine lv_aload_n hx hb dX9_instrument_29 rfl (lv_at hl 0 rfl) ?_
  refine lv_iload_n hx hb dX9_instrument_30 rfl (lv_at hl 2 rfl) ?_
  refine lv_iload_n hx hb dX9_instrument_31 rfl (lv_at hl 3 rfl) ?_
  refine g_i (wr := [(q1, .inr (11, [.ref q13, w3, w4, w5, w6, w7, w8, w9, w10, w11, w12])), (q17, .inl (g.2 3, 10, .inr (.inr (.inr (.inr f18))))), (q13, .inr (10, [.ref q17, .int 0, w16]))]) (rV (rest := []) hx hb hml hown hE hP hD 1 rfl rfl (c2114_X6_instrumentNumber l g q20 q28 w21 w22 w23 w25 w26 w27 f29 (hf30) H.size) (kV_X6_instrumentNumber hE (e1010 hE) rfl rfl ⟨(Nat.le_of_ble_eq_true rfl), (Nat.le_of_ble_eq_true rfl)⟩) [0, 1] rfl (by decide) rfl hl.1 rfl (lv_room (Nat.le_of_ble_eq_true rfl)) dX9_instrument_32 ⟨(Nat.le_of_ble_eq_true rfl), (Nat.le_of_ble_eq_true rfl)⟩) hP hD hS hA [0, 1] [2, 3, 4] rfl rfl (by decide) (by decide) (fun u4 H locs hP hD hS => ?_)
  have hP : va_P g.1 vwCl [(q1, .inr (11, [.ref q13, w3, w4, w5, w6, w7, w8, w9, w10, w11, w12])), (q17, .inl (g.2 3, 10, .inr (.inr (.inr (.inr f18))))), (q13, .inr (10, [.ref q17, .int 0, w16])), (q28, .inl (g.2 0, 20, .inl f29)), (q20, .inr (8, [w21, w22, w23, .ref q28, w25, w26, w27]))] H := hP
  have hD : va_D A [(q1, .inr (11, [.ref q13, w3, w4, w5, w6, w7, w8, w9, w10, w11, w12])), (q17, .inl (g.2 3, 10, .inr (.inr (.inr (.inr f18))))), (q13, .inr (10, [.ref q17, .int 0, w16])), (q28, .inl (g.2 0, 20, .inl f29)), (q20, .inr (8, [w21, w22, w23, .ref q28, w25, w26, w27]))] := hD
  exact x_zret hx hb hr rfl rfl hlocks hP hD hS hAe hsz (Nat.le_of_ble_eq_true rfl) (Nat.le_of_ble_eq_true rfl) (fun _ => 0) [0, 1, 2, 3, 4] (by decide) rfl dX9_instrument_35

set_option maxHeartbeats 4000000 in
set_option maxRecDepth 100000 in
theorem c2171_L_instrument (l : Launch) (g : gG) (hlx : l.stackTraces = false) (q1 q2 q14 q18 q21 q29 : Nat) (w4 w5 w6 w7 w8 w9 w10 w11 w12 w13 w17 w22 w23 w24 w26 w27 w28 : Value) (f19 : Nat → Option Nat) (f30 : Nat → Int32) (f32 : Nat → Int64) (hf20 : f19 0 = some q21) (hf31 : f30 4 = 5) (sz : Nat) : Met l yL_instrument [Cond.codeWith yL_instrument cL_instrument 5 (some .int) [(0, 10, 13, 13), (0, 10, 17, 15)]] ({ frames := 3, cells := 0, slots := 0, locals := 65 } : Room) (va_Pc [.ref q1, .int 0, .int 4, .ref q2] (PZ g sz [(q2, .inl (g.2 1, 1, .inr (.inl f32))), (q29, .inl (g.2 0, 20, .inl f30)), (q21, .inr (8, [w22, w23, w24, .ref q29, w26, w27, w28])), (q18, .inl (g.2 3, 10, .inr (.inr (.inr (.inr f19))))), (q14, .inr (10, [.ref q18, .int 0, w17])), (q1, .inr (11, [.ref q14, w4, w5, w6, w7, w8, w9, w10, w11, w12, w13]))])) (QI g [(q2, .inl (g.2 1, 1, .inr (.inl f32))), (q29, .inl (g.2 0, 20, .inl f30)), (q21, .inr (8, [w22, w23, w24, .ref q29, w26, w27, w28])), (q18, .inl (g.2 3, 10, .inr (.inr (.inr (.inr f19))))), (q14, .inr (10, [.ref q18, .int 0, w17])), (q1, .inr (11, [.ref q14, w4, w5, w6, w7, w8, w9, w10, w11, w12, w13]))] sz 0 (fun _ => [(q2, .inl (g.2 1, 1, .inr (.inl (vp_updL f32 0 5))))])) 0 0 (va_A [(q2, .inl (g.2 1, 1, .inr (.inl f32))), (q29, .inl (g.2 0, 20, .inl f30)), (q21, .inr (8, [w22, w23, w24, .ref q29, w26, w27, w28])), (q18, .inl (g.2 3, 10, .inr (.inr (.inr (.inr f19))))), (q14, .inr (10, [.ref q18, .int 0, w17])), (q1, .inr (11, [.ref q14, w4, w5, w6, w7, w8, w9, w10, w11, w12, w13]))] sz) := by
  refine ofH (by decide) (Nat.le_of_ble_eq_true rfl) rfl ?_
  intro p e s m args below meth c A ls hAe hsz hx hb hml hr hlocks hin hown hE hP hD hA hS hl htb hz
  have hown : s.vm.findClass RL = some m.cls := hown
  refine lv_aload_n hx hb dL_instrument_0 rfl (lv_at hl 3 rfl) ?_
  refine lv_iconst (v := 0) hx hb dL_instrument_1 (by decide) ?_
  refine lv_aload_n hx hb dL_instrument_2 rfl (lv_at hl 0 rfl) ?_
  refine lv_iload_n hx hb dL_instrument_3 rfl (lv_at hl 1 rfl) ?_
  refine lv_iload_n hx hb dL_instrument_4 rfl (lv_at hl 2 rfl) ?_
  refine g_i (wr := [(q2, .inl (g.2 1, 1, .inr (.inl f32)))]) (rV (rest := [.int 0, .ref q2]) hx hb hml hown hE hP hD 5 rfl rfl (c2170_X9_instrument l g q1 q14 q18 q21 q29 w4 w5 w6 w7 w8 w9 w10 w11 w12 w13 w17 w22 w23 w24 w26 w27 w28 f19 f30 (hf20) (hf31) s.heap.size) (kV_X9_instrument hE (e1015 hE) rfl rfl ⟨(Nat.le_of_ble_eq_true rfl), (Nat.le_of_ble_eq_true rfl)⟩) [1, 2, 3, 4, 5] rfl (by decide) rfl hl.1 rfl (lv_room (Nat.le_of_ble_eq_true rfl)) dL_instrument_5 ⟨(Nat.le_of_ble_eq_true rfl), (Nat.le_of_ble_eq_true rfl)⟩) hP hD hS hA [1, 2, 3, 4, 5] [0] rfl rfl (by decide) (by decide) (fun u1 H locs hP hD hS => ?_)
  have hP : va_P g.1 vwCl [(q2, .inl (g.2 1, 1, .inr (.inl f32))), (q1, .inr (11, [.ref q14, w4, w5, w6, w7, w8, w9, w10, w11, w12, w13])), (q18, .inl (g.2 3, 10, .inr (.inr (.inr (.inr f19))))), (q14, .inr (10, [.ref q18, .int 0, w17])), (q29, .inl (g.2 0, 20, .inl f30)), (q21, .inr (8, [w22, w23, w24, .ref q29, w26, w27, w28]))] H := hP
  have hD : va_D A [(q2, .inl (g.2 1, 1, .inr (.inl f32))), (q1, .inr (11, [.ref q14, w4, w5, w6, w7, w8, w9, w10, w11, w12, w13])), (q18, .inl (g.2 3, 10, .inr (.inr (.inr (.inr f19))))), (q14, .inr (10, [.ref q18, .int 0, w17])), (q29, .inl (g.2 0, 20, .inl f30)), (q21, .inr (8, [w22, w23, w24, .ref q29, w26, w27, w28]))] := hD
  refine lv_i2l (v := 5) hx hb dL_instrument_8 (by decide) ?_
  refine x_last (ws' := [(q2, .inl (g.2 1, 1, .inr (.inl (vp_updL f32 0 5)))), (q1, .inr (11, [.ref q14, w4, w5, w6, w7, w8, w9, w10, w11, w12, w13])), (q18, .inl (g.2 3, 10, .inr (.inr (.inr (.inr f19))))), (q14, .inr (10, [.ref q18, .int 0, w17])), (q29, .inl (g.2 0, 20, .inl f30)), (q21, .inr (8, [w22, w23, w24, .ref q29, w26, w27, w28]))]) hx hb hE hP hD hS 0 rfl 0 (x_in (by decide)) (by decide) dL_instrument_9 rfl (fun H locs hP hD hS => ?_)
  refine lv_goto (tgt := 21) hx hb dL_instrument_10 (by decide) ?_
  refine lv_iconst (v := 0) hx hb dL_instrument_21 (by decide) ?_
  exact x_zret hx hb hr rfl rfl hlocks hP hD hS hAe hsz (Nat.le_of_ble_eq_true rfl) (Nat.le_of_ble_eq_true rfl) (fun _ => 0) [0] (by decide) rfl dL_instrument_22

set_option maxHeartbeats 4000000 in
set_option maxRecDepth 100000 in
theorem c2172_X10_instrument (l : Launch) (g : gG) (q1 q39 : Nat) (w3 w4 w5 w6 w7 w8 w9 w10 w11 w12 w13 w14 w15 w16 w17 w18 w19 w20 w21 w22 w23 w24 w25 w26 w27 w28 w29 w30 w31 w32 w33 w34 w35 w36 w37 w38 : Value) (f40 : Nat → Int32) (hf41 : f40 392 = 0) (hf42 : f40 478 = 5) (sz : Nat) : Met l yX10_instrument [Cond.code yX10_instrument cX10_instrument 5 (some .int)] ({ frames := 2, cells := 0, slots := 0, locals := 42 } : Room) (va_Pc [.ref q1, .int 0, .int 4] (PX g sz [(q39, .inl (g.2 0, 497, .inl f40)), (q1, .inr (12, [.ref q39, w3, w4, w5, w6, w7, w8, w9, w10, w11, w12, w13, w14, w15, w16, w17, w18, w19, w20, w21, w22, w23, w24, w25, w26, w27, w28, w29, w30, w31, w32, w33, w34, w35, w36, w37, w38]))])) (QI g [(q39, .inl (g.2 0, 497, .inl f40)), (q1, .inr (12, [.ref q39, w3, w4, w5, w6, w7, w8, w9, w10, w11, w12, w13, w14, w15, w16, w17, w18, w19, w20, w21, w22, w23, w24, w25, w26, w27, w28, w29, w30, w31, w32, w33, w34, w35, w36, w37, w38]))] sz 5 (fun _ => [(q1, .inr (12, [.ref q39, w3, w4, w5, w6, w7, .int 0, w9, w10, w11, w12, w13, w14, w15, w16, w17, w18, w19, w20, w21, w22, w23, w24, w25, w26, w27, w28, w29, w30, w31, w32, w33, w34, w35, w36, w37, w38]))])) 0 0 (va_A [(q39, .inl (g.2 0, 497, .inl f40)), (q1, .inr (12, [.ref q39, w3, w4, w5, w6, w7, w8, w9, w10, w11, w12, w13, w14, w15, w16, w17, w18, w19, w20, w21, w22, w23, w24, w25, w26, w27, w28, w29, w30, w31, w32, w33, w34, w35, w36, w37, w38]))] sz) := by
  refine ofN (by decide) (Nat.le_of_ble_eq_true rfl) rfl ?_
  intro p e s m args below meth c A ls hAe hsz hx hb hml hr hlocks hin hown hE hP hD hA hS hl
  have hown : s.vm.findClass RX10 = some m.cls := hown
  refine lv_aload_n hx hb dX10_instrument_0 rfl (lv_at hl 0 rfl) ?_
  refine lv_iload_n hx hb dX10_instrument_1 rfl (lv_at hl 1 rfl) ?_
  refine g0_i (rS (rest := [.ref q1]) hx hb hml hown hE hP hD (c1857_X10_isInstrument l g 0 (by decide) (by decide) s.heap.size) (kS_X10_isInstrument hE (e1645 hE) rfl rfl ⟨(Nat.le_of_ble_eq_true rfl), (Nat.le_of_ble_eq_true rfl)⟩) [] rfl (by decide) rfl hl.1 rfl (lv_room (Nat.le_of_ble_eq_true rfl)) dX10_instrument_2 ⟨(Nat.le_of_ble_eq_true rfl), (Nat.le_of_ble_eq_true rfl)⟩) hP hD hS hA (fun u9 H locs hP hS => ?_)
  refine lv_if_ne (tgt := 12) hx hb dX10_instrument_5 (by decide) (fun _ => ?_) (fun h => absurd h (by decide))
  refine lv_iload_n hx hb dX10_instrument_12 rfl (lv_at hl 2 rfl) ?_
  refine lv_iconst (v := 0) hx hb dX10_instrument_13 (by decide) ?_
  refine lv_iconst (v := 5) hx hb dX10_instrument_14 (by decide) ?_
  refine g0_i (rS (rest := [.ref q1]) hx hb hml hown hE hP hD (c971_X10_in l g 4 (by decide) (by decide) H.size) (kS_X10_in hE (e1431 hE) rfl rfl ⟨(Nat.le_of_ble_eq_true rfl), (Nat.le_of_ble_eq_true rfl)⟩) [] rfl (by decide) rfl hl.1 rfl (lv_room (Nat.le_of_ble_eq_true rfl)) dX10_instrument_15 ⟨(Nat.le_of_ble_eq_true rfl), (Nat.le_of_ble_eq_true rfl)⟩) hP hD hS hA (fun u9 H locs hP hS => ?_)
  refine lv_if_ne (tgt := 25) hx hb dX10_instrument_18 (by decide) (fun _ => ?_) (fun h => absurd h (by decide))
  refine lv_iconst (v := 0) hx hb dX10_instrument_25 (by decide) ?_
  refine pf_RX10_86 (ws' := [(q39, .inl (g.2 0, 497, .inl f40)), (q1, .inr (12, [.ref q39, w3, w4, w5, w6, w7, .int 0, w9, w10, w11, w12, w13, w14, w15, w16, w17, w18, w19, w20, w21, w22, w23, w24, w25, w26, w27, w28, w29, w30, w31, w32, w33, w34, w35, w36, w37, w38]))]) hx hb hown hE hP hD hS 1 rfl rfl rfl (Nat.le_of_ble_eq_true rfl) dX10_instrument_26 rfl (fun H locs hP hD hS => ?_)
  refine lv_aload_n hx hb dX10_instrument_29 rfl (lv_at hl 0 rfl) ?_
  refine gf_RX10_86 hx hb hown hE hP 1 rfl rfl dX10_instrument_30 ?_
  refine lv_if_le (tgt := 38) hx hb dX10_instrument_33 (by decide) (fun _ => ?_) (fun h => absurd (by decide) h)
  refine lv_iconst (v := 0) hx hb dX10_instrument_38 (by decide) ?_
  refine lv_istore_n (lv' := [(3, .int 0), (0, .ref q1), (1, .int 0), (2, .int 4)]) hx hb dX10_instrument_39 rfl hl (by decide) rfl (fun ls hl => ?_)
  refine lv_iconst (v := 0) hx hb dX10_instrument_40 (by decide) ?_
  refine lv_istore (lv' := [(4, .int 0), (3, .int 0), (0, .ref q1), (1, .int 0), (2, .int 4)]) hx hb dX10_instrument_41 hl (by decide) rfl (fun ls hl => ?_)
  refine lv_iload hx hb dX10_instrument_43 (lv_at hl 0 rfl) ?_
  refine lv_aload_n hx hb dX10_instrument_45 rfl (lv_at hl 2 rfl) ?_
  refine gf_RX10_9 hx hb hown hE hP 1 rfl rfl dX10_instrument_46 ?_
  refine lv_sipush (v := 392) hx hb dX10_instrument_49 (by decide) ?_
  refine x_iald (v := 0) hx hb hE hP 0 rfl 392 (x_in (by decide)) (by decide) hf41 dX10_instrument_52 ?_
  refine lv_icmp_ge (tgt := 81) hx hb dX10_instrument_53 (by decide) (fun _ => ?_) (fun h => absurd (by decide) h)
  refine lv_iload_n hx hb dX10_instrument_81 rfl (lv_at hl 4 rfl) ?_
  refine lv_iconst (v := 5) hx hb dX10_instrument_82 (by decide) ?_
  refine lv_icmp_ne (tgt := 90) hx hb dX10_instrument_83 (by decide) (fun _ => ?_) (fun h => absurd h (by decide))
  refine lv_aload_n hx hb dX10_instrument_90 rfl (lv_at hl 2 rfl) ?_
  refine gf_RX10_9 hx hb hown hE hP 1 rfl rfl dX10_instrument_91 ?_
  refine lv_sipush (v := 474) hx hb dX10_instrument_94 (by decide) ?_
  refine lv_iconst (v := 5) hx hb dX10_instrument_97 (by decide) ?_
  refine lv_iload_n hx hb dX10_instrument_98 rfl (lv_at hl 3 rfl) ?_
  refine x_imul (v := 0) hx hb dX10_instrument_99 (by decide) ?_
  refine x_iadd (v := 474) hx hb dX10_instrument_100 (by decide) ?_
  refine lv_iload_n hx hb dX10_instrument_101 rfl (lv_at hl 4 rfl) ?_
  refine x_iadd (v := 478) hx hb dX10_instrument_102 (by decide) ?_
  refine x_iald (v := 5) hx hb hE hP 0 rfl 478 (x_in (by decide)) (by decide) hf42 dX10_instrument_103 ?_
  exact x_zret hx hb hr rfl rfl hlocks hP hD hS hAe hsz (Nat.le_of_ble_eq_true rfl) (Nat.le_of_ble_eq_true rfl) (fun _ => 0) [1] (by decide) rfl dX10_instrument_104

set_option maxHeartbeats 4000000 in
set_option maxRecDepth 100000 in
theorem c2173_X6_countClipsWith (l : Launch) (g : gG) (q1 : Nat) (w2 w3 w4 w5 w7 w8 : Value) (sz : Nat) : Met l yX6_countClipsWith [Cond.code yX6_countClipsWith cX6_countClipsWith 4 (some .int)] ({ frames := 0, cells := 0, slots := 0, locals := 0 } : Room) (va_Pc [.ref q1, .int 0] (PX g sz [(q1, .inr (8, [w2, w3, w4, w5, .int 0, w7, w8]))])) (QI g [(q1, .inr (8, [w2, w3, w4, w5, .int 0, w7, w8]))] sz 0 (fun _ => [(q1, .inr (8, [w2, w3, w4, w5, .int 0, w7, w8]))])) 0 0 (va_A [(q1, .inr (8, [w2, w3, w4, w5, .int 0, w7, w8]))] sz) := by
  refine ofN (by decide) (Nat.le_of_ble_eq_true rfl) rfl ?_
  intro p e s m args below meth c A ls hAe hsz hx hb hml hr hlocks hin hown hE hP hD hA hS hl
  have hown : s.vm.findClass RX6 = some m.cls := hown
  refine lv_iconst (v := 0) hx hb dX6_countClipsWith_0 (by decide) ?_
  refine lv_istore_n (lv' := [(2, .int 0), (0, .ref q1), (1, .int 0)]) hx hb dX6_countClipsWith_1 rfl hl (by decide) rfl (fun ls hl => ?_)
  refine lv_iconst (v := 0) hx hb dX6_countClipsWith_2 (by decide) ?_
  refine lv_istore_n (lv' := [(3, .int 0), (2, .int 0), (0, .ref q1), (1, .int 0)]) hx hb dX6_countClipsWith_3 rfl hl (by decide) rfl (fun ls hl => ?_)
  refine lv_iload_n hx hb dX6_countClipsWith_4 rfl (lv_at hl 0 rfl) ?_
  refine lv_aload_n hx hb dX6_countClipsWith_5 rfl (lv_at hl 2 rfl) ?_
  refine gf_RX6_37 hx hb hown hE hP 0 rfl rfl dX6_countClipsWith_6 ?_
  refine lv_icmp_ge (tgt := 31) hx hb dX6_countClipsWith_9 (by decide) (fun _ => ?_) (fun h => absurd (by decide) h)
  refine lv_iload_n hx hb dX6_countClipsWith_31 rfl (lv_at hl 1 rfl) ?_
  exact x_zret hx hb hr rfl rfl hlocks hP hD hS hAe hsz (Nat.le_of_ble_eq_true rfl) (Nat.le_of_ble_eq_true rfl) (fun _ => 0) [0] (by decide) rfl dX6_countClipsWith_32

set_option maxHeartbeats 4000000 in
set_option maxRecDepth 100000 in
theorem c2174_X9_instrument (l : Launch) (g : gG) (q1 q13 q17 q20 : Nat) (w3 w4 w5 w6 w7 w8 w9 w10 w11 w12 w16 w21 w22 w23 w24 w26 w27 : Value) (f18 : Nat → Option Nat) (hf19 : f18 0 = some q20) (sz : Nat) : Met l yX9_instrument [Cond.code yX9_instrument cX9_instrument 4 (some .int)] ({ frames := 2, cells := 0, slots := 0, locals := 42 } : Room) (va_Pc [.ref q1, .int 0, .int 5] (PX g sz [(q20, .inr (8, [w21, w22, w23, w24, .int 0, w26, w27])), (q17, .inl (g.2 3, 10, .inr (.inr (.inr (.inr f18))))), (q13, .inr (10, [.ref q17, .int 0, w16])), (q1, .inr (11, [.ref q13, w3, w4, w5, w6, w7, w8, w9, w10, w11, w12]))])) (QI g [(q20, .inr (8, [w21, w22, w23, w24, .int 0, w26, w27])), (q17, .inl (g.2 3, 10, .inr (.inr (.inr (.inr f18))))), (q13, .inr (10, [.ref q17, .int 0, w16])), (q1, .inr (11, [.ref q13, w3, w4, w5, w6, w7, w8, w9, w10, w11, w12]))] sz 0 (fun _ => [(q1, .inr (11, [.ref q13, w3, w4, w5, w6, w7, w8, w9, w10, w11, w12])), (q17, .inl (g.2 3, 10, .inr (.inr (.inr (.inr f18))))), (q13, .inr (10, [.ref q17, .int 0, w16])), (q20, .inr (8, [w21, w22, w23, w24, .int 0, w26, w27]))])) 0 0 (va_A [(q20, .inr (8, [w21, w22, w23, w24, .int 0, w26, w27])), (q17, .inl (g.2 3, 10, .inr (.inr (.inr (.inr f18))))), (q13, .inr (10, [.ref q17, .int 0, w16])), (q1, .inr (11, [.ref q13, w3, w4, w5, w6, w7, w8, w9, w10, w11, w12]))] sz) := by
  refine ofN (by decide) (Nat.le_of_ble_eq_true rfl) rfl ?_
  intro p e s m args below meth c A ls hAe hsz hx hb hml hr hlocks hin hown hE hP hD hA hS hl
  have hown : s.vm.findClass RX9 = some m.cls := hown
  refine lv_iload_n hx hb dX9_instrument_0 rfl (lv_at hl 1 rfl) ?_
  refine g0_v (rS (rest := []) hx hb hml hown hE hP hD (c1854_X9_requireInstrument l g 0 (by decide) (by decide) s.heap.size) (kS_X9_requireInstrument hE (e991 hE) rfl rfl ⟨(Nat.le_of_ble_eq_true rfl), (Nat.le_of_ble_eq_true rfl)⟩) [] rfl (by decide) rfl hl.1 rfl (lv_room (Nat.le_of_ble_eq_true rfl)) dX9_instrument_1 ⟨(Nat.le_of_ble_eq_true rfl), (Nat.le_of_ble_eq_true rfl)⟩) hP hD hS hA (fun u9 H locs hP hS => ?_)
  refine lv_iload_n hx hb dX9_instrument_4 rfl (lv_at hl 2 rfl) ?_
  refine lv_iconst (v := 0) hx hb dX9_instrument_5 (by decide) ?_
  refine lv_iconst (v := 5) hx hb dX9_instrument_6 (by decide) ?_
  refine g0_v (rS (rest := []) hx hb hml hown hE hP hD (c968_X9_requireRange l g 5 (by decide) (by decide) H.size) (kS_X9_requireRange hE (e636 hE) rfl rfl ⟨(Nat.le_of_ble_eq_true rfl), (Nat.le_of_ble_eq_true rfl)⟩) [] rfl (by decide) rfl hl.1 rfl (lv_room (Nat.le_of_ble_eq_true rfl)) dX9_instrument_7 ⟨(Nat.le_of_ble_eq_true rfl), (Nat.le_of_ble_eq_true rfl)⟩) hP hD hS hA (fun u9 H locs hP hS => ?_)
  refine lv_aload_n hx hb dX9_instrument_10 rfl (lv_at hl 0 rfl) ?_
  refine gf_RX9_12 hx hb hown hE hP 3 rfl rfl dX9_instrument_11 ?_
  refine g_r (wr := [(q20, .inr (8, [w21, w22, w23, w24, .int 0, w26, w27])), (q1, .inr (11, [.ref q13, w3, w4, w5, w6, w7, w8, w9, w10, w11, w12]))]) (rV (rest := []) hx hb hml hown hE hP hD 2 rfl rfl (c71_X8_current l g q13 q17 q20 w16 f18 (hf19) H.size) (kV_X8_current hE (e290 hE) rfl rfl ⟨(Nat.le_of_ble_eq_true rfl), (Nat.le_of_ble_eq_true rfl)⟩) [1, 2] rfl (by decide) rfl hl.1 rfl (lv_room (Nat.le_of_ble_eq_true rfl)) dX9_instrument_14 ⟨(Nat.le_of_ble_eq_true rfl), (Nat.le_of_ble_eq_true rfl)⟩) hP hD hS hA [1, 2] [0, 3] rfl rfl (by decide) (by decide) (fun u3 H locs hP hD hS => ?_)
  have hP : va_P g.1 vwCl [(q20, .inr (8, [w21, w22, w23, w24, .int 0, w26, w27])), (q1, .inr (11, [.ref q13, w3, w4, w5, w6, w7, w8, w9, w10, w11, w12])), (q17, .inl (g.2 3, 10, .inr (.inr (.inr (.inr f18))))), (q13, .inr (10, [.ref q17, .int 0, w16]))] H := hP
  have hD : va_D A [(q20, .inr (8, [w21, w22, w23, w24, .int 0, w26, w27])), (q1, .inr (11, [.ref q13, w3, w4, w5, w6, w7, w8, w9, w10, w11, w12])), (q17, .inl (g.2 3, 10, .inr (.inr (.inr (.inr f18))))), (q13, .inr (10, [.ref q17, .int 0, w16]))] := hD
  refine lv_astore_n (lv' := [(3, .ref q20), (0, .ref q1), (1, .int 0), (2, .int 5)]) hx hb dX9_instrument_17 rfl hl (by decide) rfl (fun ls hl => ?_)
  refine lv_iload_n hx hb dX9_instrument_18 rfl (lv_at hl 3 rfl) ?_
  refine lv_iconst (v := 5) hx hb dX9_instrument_19 (by decide) ?_
  refine lv_icmp_ne (tgt := 29) hx hb dX9_instrument_20 (by decide) (fun h => absurd h (by decide)) (fun _ => ?_)
  refine lv_aload_n hx hb dX9_instrument_23 rfl (lv_at hl 0 rfl) ?_
  refine lv_iload_n hx hb dX9_instrument_24 rfl (lv_at hl 2 rfl) ?_
  refine g_i (wr := [(q1, .inr (11, [.ref q13, w3, w4, w5, w6, w7, w8, w9, w10, w11, w12])), (q17, .inl (g.2 3, 10, .inr (.inr (.inr (.inr f18))))), (q13, .inr (10, [.ref q17, .int 0, w16]))]) (rV (rest := []) hx hb hml hown hE hP hD 0 rfl rfl (c2173_X6_countClipsWith l g q20 w21 w22 w23 w24 w26 w27 H.size) (kV_X6_countClipsWith hE (e1019 hE) rfl rfl ⟨(Nat.le_of_ble_eq_true rfl), (Nat.le_of_ble_eq_true rfl)⟩) [0] rfl (by decide) rfl hl.1 rfl (lv_room (Nat.le_of_ble_eq_true rfl)) dX9_instrument_25 ⟨(Nat.le_of_ble_eq_true rfl), (Nat.le_of_ble_eq_true rfl)⟩) hP hD hS hA [0] [1, 2, 3] rfl rfl (by decide) (by decide) (fun u4 H locs hP hD hS => ?_)
  have hP : va_P g.1 vwCl [(q1, .inr (11, [.ref q13, w3, w4, w5, w6, w7, w8, w9, w10, w11, w12])), (q17, .inl (g.2 3, 10, .inr (.inr (.inr (.inr f18))))), (q13, .inr (10, [.ref q17, .int 0, w16])), (q20, .inr (8, [w21, w22, w23, w24, .int 0, w26, w27]))] H := hP
  have hD : va_D A [(q1, .inr (11, [.ref q13, w3, w4, w5, w6, w7, w8, w9, w10, w11, w12])), (q17, .inl (g.2 3, 10, .inr (.inr (.inr (.inr f18))))), (q13, .inr (10, [.ref q17, .int 0, w16])), (q20, .inr (8, [w21, w22, w23, w24, .int 0, w26, w27]))] := hD
  exact x_zret hx hb hr rfl rfl hlocks hP hD hS hAe hsz (Nat.le_of_ble_eq_true rfl) (Nat.le_of_ble_eq_true rfl) (fun _ => 0) [0, 1, 2, 3] (by decide) rfl dX9_instrument_28

set_option maxHeartbeats 4000000 in
set_option maxRecDepth 100000 in
theorem c2175_L_instrument (l : Launch) (g : gG) (hlx : l.stackTraces = false) (q1 q2 q14 q18 q21 : Nat) (w4 w5 w6 w7 w8 w9 w10 w11 w12 w13 w17 w22 w23 w24 w25 w27 w28 : Value) (f19 : Nat → Option Nat) (f29 : Nat → Int64) (hf20 : f19 0 = some q21) (sz : Nat) : Met l yL_instrument [Cond.codeWith yL_instrument cL_instrument 5 (some .int) [(0, 10, 13, 13), (0, 10, 17, 15)]] ({ frames := 3, cells := 0, slots := 0, locals := 65 } : Room) (va_Pc [.ref q1, .int 0, .int 5, .ref q2] (PZ g sz [(q2, .inl (g.2 1, 1, .inr (.inl f29))), (q21, .inr (8, [w22, w23, w24, w25, .int 0, w27, w28])), (q18, .inl (g.2 3, 10, .inr (.inr (.inr (.inr f19))))), (q14, .inr (10, [.ref q18, .int 0, w17])), (q1, .inr (11, [.ref q14, w4, w5, w6, w7, w8, w9, w10, w11, w12, w13]))])) (QI g [(q2, .inl (g.2 1, 1, .inr (.inl f29))), (q21, .inr (8, [w22, w23, w24, w25, .int 0, w27, w28])), (q18, .inl (g.2 3, 10, .inr (.inr (.inr (.inr f19))))), (q14, .inr (10, [.ref q18, .int 0, w17])), (q1, .inr (11, [.ref q14, w4, w5, w6, w7, w8, w9, w10, w11, w12, w13]))] sz 0 (fun _ => [(q2, .inl (g.2 1, 1, .inr (.inl (vp_updL f29 0 0))))])) 0 0 (va_A [(q2, .inl (g.2 1, 1, .inr (.inl f29))), (q21, .inr (8, [w22, w23, w24, w25, .int 0, w27, w28])), (q18, .inl (g.2 3, 10, .inr (.inr (.inr (.inr f19))))), (q14, .inr (10, [.ref q18, .int 0, w17])), (q1, .inr (11, [.ref q14, w4, w5, w6, w7, w8, w9, w10, w11, w12, w13]))] sz) := by
  refine ofH (by decide) (Nat.le_of_ble_eq_true rfl) rfl ?_
  intro p e s m args below meth c A ls hAe hsz hx hb hml hr hlocks hin hown hE hP hD hA hS hl htb hz
  have hown : s.vm.findClass RL = some m.cls := hown
  refine lv_aload_n hx hb dL_instrument_0 rfl (lv_at hl 3 rfl) ?_
  refine lv_iconst (v := 0) hx hb dL_instrument_1 (by decide) ?_
  refine lv_aload_n hx hb dL_instrument_2 rfl (lv_at hl 0 rfl) ?_
  refine lv_iload_n hx hb dL_instrument_3 rfl (lv_at hl 1 rfl) ?_
  refine lv_iload_n hx hb dL_instrument_4 rfl (lv_at hl 2 rfl) ?_
  refine g_i (wr := [(q2, .inl (g.2 1, 1, .inr (.inl f29)))]) (rV (rest := [.int 0, .ref q2]) hx hb hml hown hE hP hD 4 rfl rfl (c2174_X9_instrument l g q1 q14 q18 q21 w4 w5 w6 w7 w8 w9 w10 w11 w12 w13 w17 w22 w23 w24 w25 w27 w28 f19 (hf20) s.heap.size) (kV_X9_instrument hE (e1015 hE) rfl rfl ⟨(Nat.le_of_ble_eq_true rfl), (Nat.le_of_ble_eq_true rfl)⟩) [1, 2, 3, 4] rfl (by decide) rfl hl.1 rfl (lv_room (Nat.le_of_ble_eq_true rfl)) dL_instrument_5 ⟨(Nat.le_of_ble_eq_true rfl), (Nat.le_of_ble_eq_true rfl)⟩) hP hD hS hA [1, 2, 3, 4] [0] rfl rfl (by decide) (by decide) (fun u1 H locs hP hD hS => ?_)
  have hP : va_P g.1 vwCl [(q2, .inl (g.2 1, 1, .inr (.inl f29))), (q1, .inr (11, [.ref q14, w4, w5, w6, w7, w8, w9, w10, w11, w12, w13])), (q18, .inl (g.2 3, 10, .inr (.inr (.inr (.inr f19))))), (q14, .inr (10, [.ref q18, .int 0, w17])), (q21, .inr (8, [w22, w23, w24, w25, .int 0, w27, w28]))] H := hP
  have hD : va_D A [(q2, .inl (g.2 1, 1, .inr (.inl f29))), (q1, .inr (11, [.ref q14, w4, w5, w6, w7, w8, w9, w10, w11, w12, w13])), (q18, .inl (g.2 3, 10, .inr (.inr (.inr (.inr f19))))), (q14, .inr (10, [.ref q18, .int 0, w17])), (q21, .inr (8, [w22, w23, w24, w25, .int 0, w27, w28]))] := hD
  refine lv_i2l (v := 0) hx hb dL_instrument_8 (by decide) ?_
  refine x_last (ws' := [(q2, .inl (g.2 1, 1, .inr (.inl (vp_updL f29 0 0)))), (q1, .inr (11, [.ref q14, w4, w5, w6, w7, w8, w9, w10, w11, w12, w13])), (q18, .inl (g.2 3, 10, .inr (.inr (.inr (.inr f19))))), (q14, .inr (10, [.ref q18, .int 0, w17])), (q21, .inr (8, [w22, w23, w24, w25, .int 0, w27, w28]))]) hx hb hE hP hD hS 0 rfl 0 (x_in (by decide)) (by decide) dL_instrument_9 rfl (fun H locs hP hD hS => ?_)
  refine lv_goto (tgt := 21) hx hb dL_instrument_10 (by decide) ?_
  refine lv_iconst (v := 0) hx hb dL_instrument_21 (by decide) ?_
  exact x_zret hx hb hr rfl rfl hlocks hP hD hS hAe hsz (Nat.le_of_ble_eq_true rfl) (Nat.le_of_ble_eq_true rfl) (fun _ => 0) [0] (by decide) rfl dL_instrument_22

set_option maxHeartbeats 4000000 in
set_option maxRecDepth 100000 in
theorem c2176_X10_instrument (l : Launch) (g : gG) (q1 q39 : Nat) (w3 w4 w5 w6 w7 w8 w9 w10 w11 w12 w13 w14 w15 w16 w17 w18 w19 w20 w21 w22 w23 w24 w25 w26 w27 w28 w29 w30 w31 w32 w33 w34 w35 w36 w37 w38 : Value) (f40 : Nat → Int32) (hf41 : f40 392 = 0) (sz : Nat) : Met l yX10_instrument [Cond.code yX10_instrument cX10_instrument 5 (some .int)] ({ frames := 2, cells := 0, slots := 0, locals := 42 } : Room) (va_Pc [.ref q1, .int 0, .int 5] (PX g sz [(q39, .inl (g.2 0, 497, .inl f40)), (q1, .inr (12, [.ref q39, w3, w4, w5, w6, w7, w8, w9, w10, w11, w12, w13, w14, w15, w16, w17, w18, w19, w20, w21, w22, w23, w24, w25, w26, w27, w28, w29, w30, w31, w32, w33, w34, w35, w36, w37, w38]))])) (QI g [(q39, .inl (g.2 0, 497, .inl f40)), (q1, .inr (12, [.ref q39, w3, w4, w5, w6, w7, w8, w9, w10, w11, w12, w13, w14, w15, w16, w17, w18, w19, w20, w21, w22, w23, w24, w25, w26, w27, w28, w29, w30, w31, w32, w33, w34, w35, w36, w37, w38]))] sz 0 (fun _ => [(q1, .inr (12, [.ref q39, w3, w4, w5, w6, w7, .int 0, w9, w10, w11, w12, w13, w14, w15, w16, w17, w18, w19, w20, w21, w22, w23, w24, w25, w26, w27, w28, w29, w30, w31, w32, w33, w34, w35, w36, w37, w38]))])) 0 0 (va_A [(q39, .inl (g.2 0, 497, .inl f40)), (q1, .inr (12, [.ref q39, w3, w4, w5, w6, w7, w8, w9, w10, w11, w12, w13, w14, w15, w16, w17, w18, w19, w20, w21, w22, w23, w24, w25, w26, w27, w28, w29, w30, w31, w32, w33, w34, w35, w36, w37, w38]))] sz) := by
  refine ofN (by decide) (Nat.le_of_ble_eq_true rfl) rfl ?_
  intro p e s m args below meth c A ls hAe hsz hx hb hml hr hlocks hin hown hE hP hD hA hS hl
  have hown : s.vm.findClass RX10 = some m.cls := hown
  refine lv_aload_n hx hb dX10_instrument_0 rfl (lv_at hl 0 rfl) ?_
  refine lv_iload_n hx hb dX10_instrument_1 rfl (lv_at hl 1 rfl) ?_
  refine g0_i (rS (rest := [.ref q1]) hx hb hml hown hE hP hD (c1857_X10_isInstrument l g 0 (by decide) (by decide) s.heap.size) (kS_X10_isInstrument hE (e1645 hE) rfl rfl ⟨(Nat.le_of_ble_eq_true rfl), (Nat.le_of_ble_eq_true rfl)⟩) [] rfl (by decide) rfl hl.1 rfl (lv_room (Nat.le_of_ble_eq_true rfl)) dX10_instrument_2 ⟨(Nat.le_of_ble_eq_true rfl), (Nat.le_of_ble_eq_true rfl)⟩) hP hD hS hA (fun u9 H locs hP hS => ?_)
  refine lv_if_ne (tgt := 12) hx hb dX10_instrument_5 (by decide) (fun _ => ?_) (fun h => absurd h (by decide))
  refine lv_iload_n hx hb dX10_instrument_12 rfl (lv_at hl 2 rfl) ?_
  refine lv_iconst (v := 0) hx hb dX10_instrument_13 (by decide) ?_
  refine lv_iconst (v := 5) hx hb dX10_instrument_14 (by decide) ?_
  refine g0_i (rS (rest := [.ref q1]) hx hb hml hown hE hP hD (c971_X10_in l g 5 (by decide) (by decide) H.size) (kS_X10_in hE (e1431 hE) rfl rfl ⟨(Nat.le_of_ble_eq_true rfl), (Nat.le_of_ble_eq_true rfl)⟩) [] rfl (by decide) rfl hl.1 rfl (lv_room (Nat.le_of_ble_eq_true rfl)) dX10_instrument_15 ⟨(Nat.le_of_ble_eq_true rfl), (Nat.le_of_ble_eq_true rfl)⟩) hP hD hS hA (fun u9 H locs hP hS => ?_)
  refine lv_if_ne (tgt := 25) hx hb dX10_instrument_18 (by decide) (fun _ => ?_) (fun h => absurd h (by decide))
  refine lv_iconst (v := 0) hx hb dX10_instrument_25 (by decide) ?_
  refine pf_RX10_86 (ws' := [(q39, .inl (g.2 0, 497, .inl f40)), (q1, .inr (12, [.ref q39, w3, w4, w5, w6, w7, .int 0, w9, w10, w11, w12, w13, w14, w15, w16, w17, w18, w19, w20, w21, w22, w23, w24, w25, w26, w27, w28, w29, w30, w31, w32, w33, w34, w35, w36, w37, w38]))]) hx hb hown hE hP hD hS 1 rfl rfl rfl (Nat.le_of_ble_eq_true rfl) dX10_instrument_26 rfl (fun H locs hP hD hS => ?_)
  refine lv_aload_n hx hb dX10_instrument_29 rfl (lv_at hl 0 rfl) ?_
  refine gf_RX10_86 hx hb hown hE hP 1 rfl rfl dX10_instrument_30 ?_
  refine lv_if_le (tgt := 38) hx hb dX10_instrument_33 (by decide) (fun _ => ?_) (fun h => absurd (by decide) h)
  refine lv_iconst (v := 0) hx hb dX10_instrument_38 (by decide) ?_
  refine lv_istore_n (lv' := [(3, .int 0), (0, .ref q1), (1, .int 0), (2, .int 5)]) hx hb dX10_instrument_39 rfl hl (by decide) rfl (fun ls hl => ?_)
  refine lv_iconst (v := 0) hx hb dX10_instrument_40 (by decide) ?_
  refine lv_istore (lv' := [(4, .int 0), (3, .int 0), (0, .ref q1), (1, .int 0), (2, .int 5)]) hx hb dX10_instrument_41 hl (by decide) rfl (fun ls hl => ?_)
  refine lv_iload hx hb dX10_instrument_43 (lv_at hl 0 rfl) ?_
  refine lv_aload_n hx hb dX10_instrument_45 rfl (lv_at hl 2 rfl) ?_
  refine gf_RX10_9 hx hb hown hE hP 1 rfl rfl dX10_instrument_46 ?_
  refine lv_sipush (v := 392) hx hb dX10_instrument_49 (by decide) ?_
  refine x_iald (v := 0) hx hb hE hP 0 rfl 392 (x_in (by decide)) (by decide) hf41 dX10_instrument_52 ?_
  refine lv_icmp_ge (tgt := 81) hx hb dX10_instrument_53 (by decide) (fun _ => ?_) (fun h => absurd (by decide) h)
  refine lv_iload_n hx hb dX10_instrument_81 rfl (lv_at hl 4 rfl) ?_
  refine lv_iconst (v := 5) hx hb dX10_instrument_82 (by decide) ?_
  refine lv_icmp_ne (tgt := 90) hx hb dX10_instrument_83 (by decide) (fun h => absurd h (by decide)) (fun _ => ?_)
  refine lv_iload_n hx hb dX10_instrument_86 rfl (lv_at hl 1 rfl) ?_
  refine lv_goto (tgt := 104) hx hb dX10_instrument_87 (by decide) ?_
  exact x_zret hx hb hr rfl rfl hlocks hP hD hS hAe hsz (Nat.le_of_ble_eq_true rfl) (Nat.le_of_ble_eq_true rfl) (fun _ => 0) [1] (by decide) rfl dX10_instrument_104

set_option maxHeartbeats 4000000 in
set_option maxRecDepth 100000 in
theorem c2177_X9_instrument (l : Launch) (g : gG) (q1 q13 q17 q20 q28 : Nat) (w3 w4 w5 w6 w7 w8 w9 w10 w11 w12 w16 w21 w22 w23 w25 w26 w27 : Value) (f18 : Nat → Option Nat) (f29 : Nat → Int32) (hf19 : f18 0 = some q20) (hf30 : f29 5 = 0) (sz : Nat) : Met l yX9_instrument [Cond.code yX9_instrument cX9_instrument 4 (some .int)] ({ frames := 2, cells := 0, slots := 0, locals := 42 } : Room) (va_Pc [.ref q1, .int 1, .int 0] (PX g sz [(q28, .inl (g.2 0, 20, .inl f29)), (q20, .inr (8, [w21, w22, w23, .ref q28, w25, w26, w27])), (q17, .inl (g.2 3, 10, .inr (.inr (.inr (.inr f18))))), (q13, .inr (10, [.ref q17, .int 0, w16])), (q1, .inr (11, [.ref q13, w3, w4, w5, w6, w7, w8, w9, w10, w11, w12]))])) (QI g [(q28, .inl (g.2 0, 20, .inl f29)), (q20, .inr (8, [w21, w22, w23, .ref q28, w25, w26, w27])), (q17, .inl (g.2 3, 10, .inr (.inr (.inr (.inr f18))))), (q13, .inr (10, [.ref q17, .int 0, w16])), (q1, .inr (11, [.ref q13, w3, w4, w5, w6, w7, w8, w9, w10, w11, w12]))] sz 0 (fun _ => [(q1, .inr (11, [.ref q13, w3, w4, w5, w6, w7, w8, w9, w10, w11, w12])), (q17, .inl (g.2 3, 10, .inr (.inr (.inr (.inr f18))))), (q13, .inr (10, [.ref q17, .int 0, w16])), (q28, .inl (g.2 0, 20, .inl f29)), (q20, .inr (8, [w21, w22, w23, .ref q28, w25, w26, w27]))])) 0 0 (va_A [(q28, .inl (g.2 0, 20, .inl f29)), (q20, .inr (8, [w21, w22, w23, .ref q28, w25, w26, w27])), (q17, .inl (g.2 3, 10, .inr (.inr (.inr (.inr f18))))), (q13, .inr (10, [.ref q17, .int 0, w16])), (q1, .inr (11, [.ref q13, w3, w4, w5, w6, w7, w8, w9, w10, w11, w12]))] sz) := by
  refine ofN (by decide) (Nat.le_of_ble_eq_true rfl) rfl ?_
  intro p e s m args below meth c A ls hAe hsz hx hb hml hr hlocks hin hown hE hP hD hA hS hl
  have hown : s.vm.findClass RX9 = some m.cls := hown
  refine lv_iload_n hx hb dX9_instrument_0 rfl (lv_at hl 1 rfl) ?_
  refine g0_v (rS (rest := []) hx hb hml hown hE hP hD (c1854_X9_requireInstrument l g 1 (by decide) (by decide) s.heap.size) (kS_X9_requireInstrument hE (e991 hE) rfl rfl ⟨(Nat.le_of_ble_eq_true rfl), (Nat.le_of_ble_eq_true rfl)⟩) [] rfl (by decide) rfl hl.1 rfl (lv_room (Nat.le_of_ble_eq_true rfl)) dX9_instrument_1 ⟨(Nat.le_of_ble_eq_true rfl), (Nat.le_of_ble_eq_true rfl)⟩) hP hD hS hA (fun u9 H locs hP hS => ?_)
  refine lv_iload_n hx hb dX9_instrument_4 rfl (lv_at hl 2 rfl) ?_
  refine lv_iconst (v := 0) hx hb dX9_instrument_5 (by decide) ?_
  refine lv_iconst (v := 5) hx hb dX9_instrument_6 (by decide) ?_
  refine g0_v (rS (rest := []) hx hb hml hown hE hP hD (c968_X9_requireRange l g 0 (by decide) (by decide) H.size) (kS_X9_requireRange hE (e636 hE) rfl rfl ⟨(Nat.le_of_ble_eq_true rfl), (Nat.le_of_ble_eq_true rfl)⟩) [] rfl (by decide) rfl hl.1 rfl (lv_room (Nat.le_of_ble_eq_true rfl)) dX9_instrument_7 ⟨(Nat.le_of_ble_eq_true rfl), (Nat.le_of_ble_eq_true rfl)⟩) hP hD hS hA (fun u9 H locs hP hS => ?_)
  refine lv_aload_n hx hb dX9_instrument_10 rfl (lv_at hl 0 rfl) ?_
  refine gf_RX9_12 hx hb hown hE hP 4 rfl rfl dX9_instrument_11 ?_
  refine g_r (wr := [(q28, .inl (g.2 0, 20, .inl f29)), (q20, .inr (8, [w21, w22, w23, .ref q28, w25, w26, w27])), (q1, .inr (11, [.ref q13, w3, w4, w5, w6, w7, w8, w9, w10, w11, w12]))]) (rV (rest := []) hx hb hml hown hE hP hD 3 rfl rfl (c71_X8_current l g q13 q17 q20 w16 f18 (hf19) H.size) (kV_X8_current hE (e290 hE) rfl rfl ⟨(Nat.le_of_ble_eq_true rfl), (Nat.le_of_ble_eq_true rfl)⟩) [2, 3] rfl (by decide) rfl hl.1 rfl (lv_room (Nat.le_of_ble_eq_true rfl)) dX9_instrument_14 ⟨(Nat.le_of_ble_eq_true rfl), (Nat.le_of_ble_eq_true rfl)⟩) hP hD hS hA [2, 3] [0, 1, 4] rfl rfl (by decide) (by decide) (fun u3 H locs hP hD hS => ?_)
  have hP : va_P g.1 vwCl [(q28, .inl (g.2 0, 20, .inl f29)), (q20, .inr (8, [w21, w22, w23, .ref q28, w25, w26, w27])), (q1, .inr (11, [.ref q13, w3, w4, w5, w6, w7, w8, w9, w10, w11, w12])), (q17, .inl (g.2 3, 10, .inr (.inr (.inr (.inr f18))))), (q13, .inr (10, [.ref q17, .int 0, w16]))] H := hP
  have hD : va_D A [(q28, .inl (g.2 0, 20, .inl f29)), (q20, .inr (8, [w21, w22, w23, .ref q28, w25, w26, w27])), (q1, .inr (11, [.ref q13, w3, w4, w5, w6, w7, w8, w9, w10, w11, w12])), (q17, .inl (g.2 3, 10, .inr (.inr (.inr (.inr f18))))), (q13, .inr (10, [.ref q17, .int 0, w16]))] := hD
  refine lv_astore_n (lv' := [(3, .ref q20), (0, .ref q1), (1, .int 1), (2, .int 0)]) hx hb dX9_instrument_17 rfl hl (by decide) rfl (fun ls hl => ?_)
  refine lv_iload_n hx hb dX9_instrument_18 rfl (lv_at hl 3 rfl) ?_
  refine lv_iconst (v := 5) hx hb dX9_instrument_19 (by decide) ?_
  refine lv_icmp_ne (tgt := 29) hx hb dX9_instrument_20 (by decide) (fun _ => ?_) (fun h => absurd h (by decide))
  refine lv_aload_n hx hb dX9_instrument_29 rfl (lv_at hl 0 rfl) ?_
  refine lv_iload_n hx hb dX9_instrument_30 rfl (lv_at hl 2 rfl) ?_
  refine lv_iload_n hx hb dX9_instrument_31 rfl (lv_at hl 3 rfl) ?_
  refine g_i (wr := [(q1, .inr (11, [.ref q13, w3, w4, w5, w6, w7, w8, w9, w10, w11, w12])), (q17, .inl (g.2 3, 10, .inr (.inr (.inr (.inr f18))))), (q13, .inr (10, [.ref q17, .int 0, w16]))]) (rV (rest := []) hx hb hml hown hE hP hD 1 rfl rfl (c1884_X6_instrumentNumber l g q20 q28 w21 w22 w23 w25 w26 w27 f29 (hf30) H.size) (kV_X6_instrumentNumber hE (e1010 hE) rfl rfl ⟨(Nat.le_of_ble_eq_true rfl), (Nat.le_of_ble_eq_true rfl)⟩) [0, 1] rfl (by decide) rfl hl.1 rfl (lv_room (Nat.le_of_ble_eq_true rfl)) dX9_instrument_32 ⟨(Nat.le_of_ble_eq_true rfl), (Nat.le_of_ble_eq_true rfl)⟩) hP hD hS hA [0, 1] [2, 3, 4] rfl rfl (by decide) (by decide) (fun u4 H locs hP hD hS => ?_)
  have hP : va_P g.1 vwCl [(q1, .inr (11, [.ref q13, w3, w4, w5, w6, w7, w8, w9, w10, w11, w12])), (q17, .inl (g.2 3, 10, .inr (.inr (.inr (.inr f18))))), (q13, .inr (10, [.ref q17, .int 0, w16])), (q28, .inl (g.2 0, 20, .inl f29)), (q20, .inr (8, [w21, w22, w23, .ref q28, w25, w26, w27]))] H := hP
  have hD : va_D A [(q1, .inr (11, [.ref q13, w3, w4, w5, w6, w7, w8, w9, w10, w11, w12])), (q17, .inl (g.2 3, 10, .inr (.inr (.inr (.inr f18))))), (q13, .inr (10, [.ref q17, .int 0, w16])), (q28, .inl (g.2 0, 20, .inl f29)), (q20, .inr (8, [w21, w22, w23, .ref q28, w25, w26, w27]))] := hD
  exact x_zret hx hb hr rfl rfl hlocks hP hD hS hAe hsz (Nat.le_of_ble_eq_true rfl) (Nat.le_of_ble_eq_true rfl) (fun _ => 0) [0, 1, 2, 3, 4] (by decide) rfl dX9_instrument_35

set_option maxHeartbeats 4000000 in
set_option maxRecDepth 100000 in
theorem c2178_L_instrument (l : Launch) (g : gG) (hlx : l.stackTraces = false) (q1 q2 q14 q18 q21 q29 : Nat) (w4 w5 w6 w7 w8 w9 w10 w11 w12 w13 w17 w22 w23 w24 w26 w27 w28 : Value) (f19 : Nat → Option Nat) (f30 : Nat → Int32) (f32 : Nat → Int64) (hf20 : f19 0 = some q21) (hf31 : f30 5 = 0) (sz : Nat) : Met l yL_instrument [Cond.codeWith yL_instrument cL_instrument 5 (some .int) [(0, 10, 13, 13), (0, 10, 17, 15)]] ({ frames := 3, cells := 0, slots := 0, locals := 65 } : Room) (va_Pc [.ref q1, .int 1, .int 0, .ref q2] (PZ g sz [(q2, .inl (g.2 1, 1, .inr (.inl f32))), (q29, .inl (g.2 0, 20, .inl f30)), (q21, .inr (8, [w22, w23, w24, .ref q29, w26, w27, w28])), (q18, .inl (g.2 3, 10, .inr (.inr (.inr (.inr f19))))), (q14, .inr (10, [.ref q18, .int 0, w17])), (q1, .inr (11, [.ref q14, w4, w5, w6, w7, w8, w9, w10, w11, w12, w13]))])) (QI g [(q2, .inl (g.2 1, 1, .inr (.inl f32))), (q29, .inl (g.2 0, 20, .inl f30)), (q21, .inr (8, [w22, w23, w24, .ref q29, w26, w27, w28])), (q18, .inl (g.2 3, 10, .inr (.inr (.inr (.inr f19))))), (q14, .inr (10, [.ref q18, .int 0, w17])), (q1, .inr (11, [.ref q14, w4, w5, w6, w7, w8, w9, w10, w11, w12, w13]))] sz 0 (fun _ => [(q2, .inl (g.2 1, 1, .inr (.inl (vp_updL f32 0 0))))])) 0 0 (va_A [(q2, .inl (g.2 1, 1, .inr (.inl f32))), (q29, .inl (g.2 0, 20, .inl f30)), (q21, .inr (8, [w22, w23, w24, .ref q29, w26, w27, w28])), (q18, .inl (g.2 3, 10, .inr (.inr (.inr (.inr f19))))), (q14, .inr (10, [.ref q18, .int 0, w17])), (q1, .inr (11, [.ref q14, w4, w5, w6, w7, w8, w9, w10, w11, w12, w13]))] sz) := by
  refine ofH (by decide) (Nat.le_of_ble_eq_true rfl) rfl ?_
  intro p e s m args below meth c A ls hAe hsz hx hb hml hr hlocks hin hown hE hP hD hA hS hl htb hz
  have hown : s.vm.findClass RL = some m.cls := hown
  refine lv_aload_n hx hb dL_instrument_0 rfl (lv_at hl 3 rfl) ?_
  refine lv_iconst (v := 0) hx hb dL_instrument_1 (by decide) ?_
  refine lv_aload_n hx hb dL_instrument_2 rfl (lv_at hl 0 rfl) ?_
  refine lv_iload_n hx hb dL_instrument_3 rfl (lv_at hl 1 rfl) ?_
  refine lv_iload_n hx hb dL_instrument_4 rfl (lv_at hl 2 rfl) ?_
  refine g_i (wr := [(q2, .inl (g.2 1, 1, .inr (.inl f32)))]) (rV (rest := [.int 0, .ref q2]) hx hb hml hown hE hP hD 5 rfl rfl (c2177_X9_instrument l g q1 q14 q18 q21 q29 w4 w5 w6 w7 w8 w9 w10 w11 w12 w13 w17 w22 w23 w24 w26 w27 w28 f19 f30 (hf20) (hf31) s.heap.size) (kV_X9_instrument hE (e1015 hE) rfl rfl ⟨(Nat.le_of_ble_eq_true rfl), (Nat.le_of_ble_eq_true rfl)⟩) [1, 2, 3, 4, 5] rfl (by decide) rfl hl.1 rfl (lv_room (Nat.le_of_ble_eq_true rfl)) dL_instrument_5 ⟨(Nat.le_of_ble_eq_true rfl), (Nat.le_of_ble_eq_true rfl)⟩) hP hD hS hA [1, 2, 3, 4, 5] [0] rfl rfl (by decide) (by decide) (fun u1 H locs hP hD hS => ?_)
  have hP : va_P g.1 vwCl [(q2, .inl (g.2 1, 1, .inr (.inl f32))), (q1, .inr (11, [.ref q14, w4, w5, w6, w7, w8, w9, w10, w11, w12, w13])), (q18, .inl (g.2 3, 10, .inr (.inr (.inr (.inr f19))))), (q14, .inr (10, [.ref q18, .int 0, w17])), (q29, .inl (g.2 0, 20, .inl f30)), (q21, .inr (8, [w22, w23, w24, .ref q29, w26, w27, w28]))] H := hP
  have hD : va_D A [(q2, .inl (g.2 1, 1, .inr (.inl f32))), (q1, .inr (11, [.ref q14, w4, w5, w6, w7, w8, w9, w10, w11, w12, w13])), (q18, .inl (g.2 3, 10, .inr (.inr (.inr (.inr f19))))), (q14, .inr (10, [.ref q18, .int 0, w17])), (q29, .inl (g.2 0, 20, .inl f30)), (q21, .inr (8, [w22, w23, w24, .ref q29, w26, w27, w28]))] := hD
  refine lv_i2l (v := 0) hx hb dL_instrument_8 (by decide) ?_
  refine x_last (ws' := [(q2, .inl (g.2 1, 1, .inr (.inl (vp_updL f32 0 0)))), (q1, .inr (11, [.ref q14, w4, w5, w6, w7, w8, w9, w10, w11, w12, w13])), (q18, .inl (g.2 3, 10, .inr (.inr (.inr (.inr f19))))), (q14, .inr (10, [.ref q18, .int 0, w17])), (q29, .inl (g.2 0, 20, .inl f30)), (q21, .inr (8, [w22, w23, w24, .ref q29, w26, w27, w28]))]) hx hb hE hP hD hS 0 rfl 0 (x_in (by decide)) (by decide) dL_instrument_9 rfl (fun H locs hP hD hS => ?_)
  refine lv_goto (tgt := 21) hx hb dL_instrument_10 (by decide) ?_
  refine lv_iconst (v := 0) hx hb dL_instrument_21 (by decide) ?_
  exact x_zret hx hb hr rfl rfl hlocks hP hD hS hAe hsz (Nat.le_of_ble_eq_true rfl) (Nat.le_of_ble_eq_true rfl) (fun _ => 0) [0] (by decide) rfl dL_instrument_22

set_option maxHeartbeats 4000000 in
set_option maxRecDepth 100000 in
theorem c2179_X10_instrument (l : Launch) (g : gG) (q1 q39 : Nat) (w3 w4 w5 w6 w7 w8 w9 w10 w11 w12 w13 w14 w15 w16 w17 w18 w19 w20 w21 w22 w23 w24 w25 w26 w27 w28 w29 w30 w31 w32 w33 w34 w35 w36 w37 w38 : Value) (f40 : Nat → Int32) (hf41 : f40 392 = 0) (hf42 : f40 479 = 0) (sz : Nat) : Met l yX10_instrument [Cond.code yX10_instrument cX10_instrument 5 (some .int)] ({ frames := 2, cells := 0, slots := 0, locals := 42 } : Room) (va_Pc [.ref q1, .int 1, .int 0] (PX g sz [(q39, .inl (g.2 0, 497, .inl f40)), (q1, .inr (12, [.ref q39, w3, w4, w5, w6, w7, w8, w9, w10, w11, w12, w13, w14, w15, w16, w17, w18, w19, w20, w21, w22, w23, w24, w25, w26, w27, w28, w29, w30, w31, w32, w33, w34, w35, w36, w37, w38]))])) (QI g [(q39, .inl (g.2 0, 497, .inl f40)), (q1, .inr (12, [.ref q39, w3, w4, w5, w6, w7, w8, w9, w10, w11, w12, w13, w14, w15, w16, w17, w18, w19, w20, w21, w22, w23, w24, w25, w26, w27, w28, w29, w30, w31, w32, w33, w34, w35, w36, w37, w38]))] sz 0 (fun _ => [(q1, .inr (12, [.ref q39, w3, w4, w5, w6, w7, .int 0, w9, w10, w11, w12, w13, w14, w15, w16, w17, w18, w19, w20, w21, w22, w23, w24, w25, w26, w27, w28, w29, w30, w31, w32, w33, w34, w35, w36, w37, w38]))])) 0 0 (va_A [(q39, .inl (g.2 0, 497, .inl f40)), (q1, .inr (12, [.ref q39, w3, w4, w5, w6, w7, w8, w9, w10, w11, w12, w13, w14, w15, w16, w17, w18, w19, w20, w21, w22, w23, w24, w25, w26, w27, w28, w29, w30, w31, w32, w33, w34, w35, w36, w37, w38]))] sz) := by
  refine ofN (by decide) (Nat.le_of_ble_eq_true rfl) rfl ?_
  intro p e s m args below meth c A ls hAe hsz hx hb hml hr hlocks hin hown hE hP hD hA hS hl
  have hown : s.vm.findClass RX10 = some m.cls := hown
  refine lv_aload_n hx hb dX10_instrument_0 rfl (lv_at hl 0 rfl) ?_
  refine lv_iload_n hx hb dX10_instrument_1 rfl (lv_at hl 1 rfl) ?_
  refine g0_i (rS (rest := [.ref q1]) hx hb hml hown hE hP hD (c1857_X10_isInstrument l g 1 (by decide) (by decide) s.heap.size) (kS_X10_isInstrument hE (e1645 hE) rfl rfl ⟨(Nat.le_of_ble_eq_true rfl), (Nat.le_of_ble_eq_true rfl)⟩) [] rfl (by decide) rfl hl.1 rfl (lv_room (Nat.le_of_ble_eq_true rfl)) dX10_instrument_2 ⟨(Nat.le_of_ble_eq_true rfl), (Nat.le_of_ble_eq_true rfl)⟩) hP hD hS hA (fun u9 H locs hP hS => ?_)
  refine lv_if_ne (tgt := 12) hx hb dX10_instrument_5 (by decide) (fun _ => ?_) (fun h => absurd h (by decide))
  refine lv_iload_n hx hb dX10_instrument_12 rfl (lv_at hl 2 rfl) ?_
  refine lv_iconst (v := 0) hx hb dX10_instrument_13 (by decide) ?_
  refine lv_iconst (v := 5) hx hb dX10_instrument_14 (by decide) ?_
  refine g0_i (rS (rest := [.ref q1]) hx hb hml hown hE hP hD (c971_X10_in l g 0 (by decide) (by decide) H.size) (kS_X10_in hE (e1431 hE) rfl rfl ⟨(Nat.le_of_ble_eq_true rfl), (Nat.le_of_ble_eq_true rfl)⟩) [] rfl (by decide) rfl hl.1 rfl (lv_room (Nat.le_of_ble_eq_true rfl)) dX10_instrument_15 ⟨(Nat.le_of_ble_eq_true rfl), (Nat.le_of_ble_eq_true rfl)⟩) hP hD hS hA (fun u9 H locs hP hS => ?_)
  refine lv_if_ne (tgt := 25) hx hb dX10_instrument_18 (by decide) (fun _ => ?_) (fun h => absurd h (by decide))
  refine lv_iconst (v := 0) hx hb dX10_instrument_25 (by decide) ?_
  refine pf_RX10_86 (ws' := [(q39, .inl (g.2 0, 497, .inl f40)), (q1, .inr (12, [.ref q39, w3, w4, w5, w6, w7, .int 0, w9, w10, w11, w12, w13, w14, w15, w16, w17, w18, w19, w20, w21, w22, w23, w24, w25, w26, w27, w28, w29, w30, w31, w32, w33, w34, w35, w36, w37, w38]))]) hx hb hown hE hP hD hS 1 rfl rfl rfl (Nat.le_of_ble_eq_true rfl) dX10_instrument_26 rfl (fun H locs hP hD hS => ?_)
  refine lv_aload_n hx hb dX10_instrument_29 rfl (lv_at hl 0 rfl) ?_
  refine gf_RX10_86 hx hb hown hE hP 1 rfl rfl dX10_instrument_30 ?_
  refine lv_if_le (tgt := 38) hx hb dX10_instrument_33 (by decide) (fun _ => ?_) (fun h => absurd (by decide) h)
  refine lv_iconst (v := 0) hx hb dX10_instrument_38 (by decide) ?_
  refine lv_istore_n (lv' := [(3, .int 0), (0, .ref q1), (1, .int 1), (2, .int 0)]) hx hb dX10_instrument_39 rfl hl (by decide) rfl (fun ls hl => ?_)
  refine lv_iconst (v := 0) hx hb dX10_instrument_40 (by decide) ?_
  refine lv_istore (lv' := [(4, .int 0), (3, .int 0), (0, .ref q1), (1, .int 1), (2, .int 0)]) hx hb dX10_instrument_41 hl (by decide) rfl (fun ls hl => ?_)
  refine lv_iload hx hb dX10_instrument_43 (lv_at hl 0 rfl) ?_
  refine lv_aload_n hx hb dX10_instrument_45 rfl (lv_at hl 2 rfl) ?_
  refine gf_RX10_9 hx hb hown hE hP 1 rfl rfl dX10_instrument_46 ?_
  refine lv_sipush (v := 392) hx hb dX10_instrument_49 (by decide) ?_
  refine x_iald (v := 0) hx hb hE hP 0 rfl 392 (x_in (by decide)) (by decide) hf41 dX10_instrument_52 ?_
  refine lv_icmp_ge (tgt := 81) hx hb dX10_instrument_53 (by decide) (fun _ => ?_) (fun h => absurd (by decide) h)
  refine lv_iload_n hx hb dX10_instrument_81 rfl (lv_at hl 4 rfl) ?_
  refine lv_iconst (v := 5) hx hb dX10_instrument_82 (by decide) ?_
  refine lv_icmp_ne (tgt := 90) hx hb dX10_instrument_83 (by decide) (fun _ => ?_) (fun h => absurd h (by decide))
  refine lv_aload_n hx hb dX10_instrument_90 rfl (lv_at hl 2 rfl) ?_
  refine gf_RX10_9 hx hb hown hE hP 1 rfl rfl dX10_instrument_91 ?_
  refine lv_sipush (v := 474) hx hb dX10_instrument_94 (by decide) ?_
  refine lv_iconst (v := 5) hx hb dX10_instrument_97 (by decide) ?_
  refine lv_iload_n hx hb dX10_instrument_98 rfl (lv_at hl 3 rfl) ?_
  refine x_imul (v := 5) hx hb dX10_instrument_99 (by decide) ?_
  refine x_iadd (v := 479) hx hb dX10_instrument_100 (by decide) ?_
  refine lv_iload_n hx hb dX10_instrument_101 rfl (lv_at hl 4 rfl) ?_
  refine x_iadd (v := 479) hx hb dX10_instrument_102 (by decide) ?_
  refine x_iald (v := 0) hx hb hE hP 0 rfl 479 (x_in (by decide)) (by decide) hf42 dX10_instrument_103 ?_
  exact x_zret hx hb hr rfl rfl hlocks hP hD hS hAe hsz (Nat.le_of_ble_eq_true rfl) (Nat.le_of_ble_eq_true rfl) (fun _ => 0) [1] (by decide) rfl dX10_instrument_104

set_option maxHeartbeats 4000000 in
set_option maxRecDepth 100000 in
theorem c2180_X9_instrument (l : Launch) (g : gG) (q1 q13 q17 q20 q28 : Nat) (w3 w4 w5 w6 w7 w8 w9 w10 w11 w12 w16 w21 w22 w23 w25 w26 w27 : Value) (f18 : Nat → Option Nat) (f29 : Nat → Int32) (hf19 : f18 0 = some q20) (hf30 : f29 6 = 0) (sz : Nat) : Met l yX9_instrument [Cond.code yX9_instrument cX9_instrument 4 (some .int)] ({ frames := 2, cells := 0, slots := 0, locals := 42 } : Room) (va_Pc [.ref q1, .int 1, .int 1] (PX g sz [(q28, .inl (g.2 0, 20, .inl f29)), (q20, .inr (8, [w21, w22, w23, .ref q28, w25, w26, w27])), (q17, .inl (g.2 3, 10, .inr (.inr (.inr (.inr f18))))), (q13, .inr (10, [.ref q17, .int 0, w16])), (q1, .inr (11, [.ref q13, w3, w4, w5, w6, w7, w8, w9, w10, w11, w12]))])) (QI g [(q28, .inl (g.2 0, 20, .inl f29)), (q20, .inr (8, [w21, w22, w23, .ref q28, w25, w26, w27])), (q17, .inl (g.2 3, 10, .inr (.inr (.inr (.inr f18))))), (q13, .inr (10, [.ref q17, .int 0, w16])), (q1, .inr (11, [.ref q13, w3, w4, w5, w6, w7, w8, w9, w10, w11, w12]))] sz 0 (fun _ => [(q1, .inr (11, [.ref q13, w3, w4, w5, w6, w7, w8, w9, w10, w11, w12])), (q17, .inl (g.2 3, 10, .inr (.inr (.inr (.inr f18))))), (q13, .inr (10, [.ref q17, .int 0, w16])), (q28, .inl (g.2 0, 20, .inl f29)), (q20, .inr (8, [w21, w22, w23, .ref q28, w25, w26, w27]))])) 0 0 (va_A [(q28, .inl (g.2 0, 20, .inl f29)), (q20, .inr (8, [w21, w22, w23, .ref q28, w25, w26, w27])), (q17, .inl (g.2 3, 10, .inr (.inr (.inr (.inr f18))))), (q13, .inr (10, [.ref q17, .int 0, w16])), (q1, .inr (11, [.ref q13, w3, w4, w5, w6, w7, w8, w9, w10, w11, w12]))] sz) := by
  refine ofN (by decide) (Nat.le_of_ble_eq_true rfl) rfl ?_
  intro p e s m args below meth c A ls hAe hsz hx hb hml hr hlocks hin hown hE hP hD hA hS hl
  have hown : s.vm.findClass RX9 = some m.cls := hown
  refine lv_iload_n hx hb dX9_instrument_0 rfl (lv_at hl 1 rfl) ?_
  refine g0_v (rS (rest := []) hx hb hml hown hE hP hD (c1854_X9_requireInstrument l g 1 (by decide) (by decide) s.heap.size) (kS_X9_requireInstrument hE (e991 hE) rfl rfl ⟨(Nat.le_of_ble_eq_true rfl), (Nat.le_of_ble_eq_true rfl)⟩) [] rfl (by decide) rfl hl.1 rfl (lv_room (Nat.le_of_ble_eq_true rfl)) dX9_instrument_1 ⟨(Nat.le_of_ble_eq_true rfl), (Nat.le_of_ble_eq_true rfl)⟩) hP hD hS hA (fun u9 H locs hP hS => ?_)
  refine lv_iload_n hx hb dX9_instrument_4 rfl (lv_at hl 2 rfl) ?_
  refine lv_iconst (v := 0) hx hb dX9_instrument_5 (by decide) ?_
  refine lv_iconst (v := 5) hx hb dX9_instrument_6 (by decide) ?_
  refine g0_v (rS (rest := []) hx hb hml hown hE hP hD (c968_X9_requireRange l g 1 (by decide) (by decide) H.size) (kS_X9_requireRange hE (e636 hE) rfl rfl ⟨(Nat.le_of_ble_eq_true rfl), (Nat.le_of_ble_eq_true rfl)⟩) [] rfl (by decide) rfl hl.1 rfl (lv_room (Nat.le_of_ble_eq_true rfl)) dX9_instrument_7 ⟨(Nat.le_of_ble_eq_true rfl), (Nat.le_of_ble_eq_true rfl)⟩) hP hD hS hA (fun u9 H locs hP hS => ?_)
  refine lv_aload_n hx hb dX9_instrument_10 rfl (lv_at hl 0 rfl) ?_
  refine gf_RX9_12 hx hb hown hE hP 4 rfl rfl dX9_instrument_11 ?_
  refine g_r (wr := [(q28, .inl (g.2 0, 20, .inl f29)), (q20, .inr (8, [w21, w22, w23, .ref q28, w25, w26, w27])), (q1, .inr (11, [.ref q13, w3, w4, w5, w6, w7, w8, w9, w10, w11, w12]))]) (rV (rest := []) hx hb hml hown hE hP hD 3 rfl rfl (c71_X8_current l g q13 q17 q20 w16 f18 (hf19) H.size) (kV_X8_current hE (e290 hE) rfl rfl ⟨(Nat.le_of_ble_eq_true rfl), (Nat.le_of_ble_eq_true rfl)⟩) [2, 3] rfl (by decide) rfl hl.1 rfl (lv_room (Nat.le_of_ble_eq_true rfl)) dX9_instrument_14 ⟨(Nat.le_of_ble_eq_true rfl), (Nat.le_of_ble_eq_true rfl)⟩) hP hD hS hA [2, 3] [0, 1, 4] rfl rfl (by decide) (by decide) (fun u3 H locs hP hD hS => ?_)
  have hP : va_P g.1 vwCl [(q28, .inl (g.2 0, 20, .inl f29)), (q20, .inr (8, [w21, w22, w23, .ref q28, w25, w26, w27])), (q1, .inr (11, [.ref q13, w3, w4, w5, w6, w7, w8, w9, w10, w11, w12])), (q17, .inl (g.2 3, 10, .inr (.inr (.inr (.inr f18))))), (q13, .inr (10, [.ref q17, .int 0, w16]))] H := hP
  have hD : va_D A [(q28, .inl (g.2 0, 20, .inl f29)), (q20, .inr (8, [w21, w22, w23, .ref q28, w25, w26, w27])), (q1, .inr (11, [.ref q13, w3, w4, w5, w6, w7, w8, w9, w10, w11, w12])), (q17, .inl (g.2 3, 10, .inr (.inr (.inr (.inr f18))))), (q13, .inr (10, [.ref q17, .int 0, w16]))] := hD
  refine lv_astore_n (lv' := [(3, .ref q20), (0, .ref q1), (1, .int 1), (2, .int 1)]) hx hb dX9_instrument_17 rfl hl (by decide) rfl (fun ls hl => ?_)
  refine lv_iload_n hx hb dX9_instrument_18 rfl (lv_at hl 3 rfl) ?_
  refine lv_iconst (v := 5) hx hb dX9_instrument_19 (by decide) ?_
  refine lv_icmp_ne (tgt := 29) hx hb dX9_instrument_20 (by decide) (fun _ => ?_) (fun h => absurd h (by decide))
  refine lv_aload_n hx hb dX9_instrument_29 rfl (lv_at hl 0 rfl) ?_
  refine lv_iload_n hx hb dX9_instrument_30 rfl (lv_at hl 2 rfl) ?_
  refine lv_iload_n hx hb dX9_instrument_31 rfl (lv_at hl 3 rfl) ?_
  refine g_i (wr := [(q1, .inr (11, [.ref q13, w3, w4, w5, w6, w7, w8, w9, w10, w11, w12])), (q17, .inl (g.2 3, 10, .inr (.inr (.inr (.inr f18))))), (q13, .inr (10, [.ref q17, .int 0, w16]))]) (rV (rest := []) hx hb hml hown hE hP hD 1 rfl rfl (c1885_X6_instrumentNumber l g q20 q28 w21 w22 w23 w25 w26 w27 f29 (hf30) H.size) (kV_X6_instrumentNumber hE (e1010 hE) rfl rfl ⟨(Nat.le_of_ble_eq_true rfl), (Nat.le_of_ble_eq_true rfl)⟩) [0, 1] rfl (by decide) rfl hl.1 rfl (lv_room (Nat.le_of_ble_eq_true rfl)) dX9_instrument_32 ⟨(Nat.le_of_ble_eq_true rfl), (Nat.le_of_ble_eq_true rfl)⟩) hP hD hS hA [0, 1] [2, 3, 4] rfl rfl (by decide) (by decide) (fun u4 H locs hP hD hS => ?_)
  have hP : va_P g.1 vwCl [(q1, .inr (11, [.ref q13, w3, w4, w5, w6, w7, w8, w9, w10, w11, w12])), (q17, .inl (g.2 3, 10, .inr (.inr (.inr (.inr f18))))), (q13, .inr (10, [.ref q17, .int 0, w16])), (q28, .inl (g.2 0, 20, .inl f29)), (q20, .inr (8, [w21, w22, w23, .ref q28, w25, w26, w27]))] H := hP
  have hD : va_D A [(q1, .inr (11, [.ref q13, w3, w4, w5, w6, w7, w8, w9, w10, w11, w12])), (q17, .inl (g.2 3, 10, .inr (.inr (.inr (.inr f18))))), (q13, .inr (10, [.ref q17, .int 0, w16])), (q28, .inl (g.2 0, 20, .inl f29)), (q20, .inr (8, [w21, w22, w23, .ref q28, w25, w26, w27]))] := hD
  exact x_zret hx hb hr rfl rfl hlocks hP hD hS hAe hsz (Nat.le_of_ble_eq_true rfl) (Nat.le_of_ble_eq_true rfl) (fun _ => 0) [0, 1, 2, 3, 4] (by decide) rfl dX9_instrument_35

set_option maxHeartbeats 4000000 in
set_option maxRecDepth 100000 in
theorem c2181_L_instrument (l : Launch) (g : gG) (hlx : l.stackTraces = false) (q1 q2 q14 q18 q21 q29 : Nat) (w4 w5 w6 w7 w8 w9 w10 w11 w12 w13 w17 w22 w23 w24 w26 w27 w28 : Value) (f19 : Nat → Option Nat) (f30 : Nat → Int32) (f32 : Nat → Int64) (hf20 : f19 0 = some q21) (hf31 : f30 6 = 0) (sz : Nat) : Met l yL_instrument [Cond.codeWith yL_instrument cL_instrument 5 (some .int) [(0, 10, 13, 13), (0, 10, 17, 15)]] ({ frames := 3, cells := 0, slots := 0, locals := 65 } : Room) (va_Pc [.ref q1, .int 1, .int 1, .ref q2] (PZ g sz [(q2, .inl (g.2 1, 1, .inr (.inl f32))), (q29, .inl (g.2 0, 20, .inl f30)), (q21, .inr (8, [w22, w23, w24, .ref q29, w26, w27, w28])), (q18, .inl (g.2 3, 10, .inr (.inr (.inr (.inr f19))))), (q14, .inr (10, [.ref q18, .int 0, w17])), (q1, .inr (11, [.ref q14, w4, w5, w6, w7, w8, w9, w10, w11, w12, w13]))])) (QI g [(q2, .inl (g.2 1, 1, .inr (.inl f32))), (q29, .inl (g.2 0, 20, .inl f30)), (q21, .inr (8, [w22, w23, w24, .ref q29, w26, w27, w28])), (q18, .inl (g.2 3, 10, .inr (.inr (.inr (.inr f19))))), (q14, .inr (10, [.ref q18, .int 0, w17])), (q1, .inr (11, [.ref q14, w4, w5, w6, w7, w8, w9, w10, w11, w12, w13]))] sz 0 (fun _ => [(q2, .inl (g.2 1, 1, .inr (.inl (vp_updL f32 0 0))))])) 0 0 (va_A [(q2, .inl (g.2 1, 1, .inr (.inl f32))), (q29, .inl (g.2 0, 20, .inl f30)), (q21, .inr (8, [w22, w23, w24, .ref q29, w26, w27, w28])), (q18, .inl (g.2 3, 10, .inr (.inr (.inr (.inr f19))))), (q14, .inr (10, [.ref q18, .int 0, w17])), (q1, .inr (11, [.ref q14, w4, w5, w6, w7, w8, w9, w10, w11, w12, w13]))] sz) := by
  refine ofH (by decide) (Nat.le_of_ble_eq_true rfl) rfl ?_
  intro p e s m args below meth c A ls hAe hsz hx hb hml hr hlocks hin hown hE hP hD hA hS hl htb hz
  have hown : s.vm.findClass RL = some m.cls := hown
  refine lv_aload_n hx hb dL_instrument_0 rfl (lv_at hl 3 rfl) ?_
  refine lv_iconst (v := 0) hx hb dL_instrument_1 (by decide) ?_
  refine lv_aload_n hx hb dL_instrument_2 rfl (lv_at hl 0 rfl) ?_
  refine lv_iload_n hx hb dL_instrument_3 rfl (lv_at hl 1 rfl) ?_
  refine lv_iload_n hx hb dL_instrument_4 rfl (lv_at hl 2 rfl) ?_
  refine g_i (wr := [(q2, .inl (g.2 1, 1, .inr (.inl f32)))]) (rV (rest := [.int 0, .ref q2]) hx hb hml hown hE hP hD 5 rfl rfl (c2180_X9_instrument l g q1 q14 q18 q21 q29 w4 w5 w6 w7 w8 w9 w10 w11 w12 w13 w17 w22 w23 w24 w26 w27 w28 f19 f30 (hf20) (hf31) s.heap.size) (kV_X9_instrument hE (e1015 hE) rfl rfl ⟨(Nat.le_of_ble_eq_true rfl), (Nat.le_of_ble_eq_true rfl)⟩) [1, 2, 3, 4, 5] rfl (by decide) rfl hl.1 rfl (lv_room (Nat.le_of_ble_eq_true rfl)) dL_instrument_5 ⟨(Nat.le_of_ble_eq_true rfl), (Nat.le_of_ble_eq_true rfl)⟩) hP hD hS hA [1, 2, 3, 4, 5] [0] rfl rfl (by decide) (by decide) (fun u1 H locs hP hD hS => ?_)
  have hP : va_P g.1 vwCl [(q2, .inl (g.2 1, 1, .inr (.inl f32))), (q1, .inr (11, [.ref q14, w4, w5, w6, w7, w8, w9, w10, w11, w12, w13])), (q18, .inl (g.2 3, 10, .inr (.inr (.inr (.inr f19))))), (q14, .inr (10, [.ref q18, .int 0, w17])), (q29, .inl (g.2 0, 20, .inl f30)), (q21, .inr (8, [w22, w23, w24, .ref q29, w26, w27, w28]))] H := hP
  have hD : va_D A [(q2, .inl (g.2 1, 1, .inr (.inl f32))), (q1, .inr (11, [.ref q14, w4, w5, w6, w7, w8, w9, w10, w11, w12, w13])), (q18, .inl (g.2 3, 10, .inr (.inr (.inr (.inr f19))))), (q14, .inr (10, [.ref q18, .int 0, w17])), (q29, .inl (g.2 0, 20, .inl f30)), (q21, .inr (8, [w22, w23, w24, .ref q29, w26, w27, w28]))] := hD
  refine lv_i2l (v := 0) hx hb dL_instrument_8 (by decide) ?_
  refine x_last (ws' := [(q2, .inl (g.2 1, 1, .inr (.inl (vp_updL f32 0 0)))), (q1, .inr (11, [.ref q14, w4, w5, w6, w7, w8, w9, w10, w11, w12, w13])), (q18, .inl (g.2 3, 10, .inr (.inr (.inr (.inr f19))))), (q14, .inr (10, [.ref q18, .int 0, w17])), (q29, .inl (g.2 0, 20, .inl f30)), (q21, .inr (8, [w22, w23, w24, .ref q29, w26, w27, w28]))]) hx hb hE hP hD hS 0 rfl 0 (x_in (by decide)) (by decide) dL_instrument_9 rfl (fun H locs hP hD hS => ?_)
  refine lv_goto (tgt := 21) hx hb dL_instrument_10 (by decide) ?_
  refine lv_iconst (v := 0) hx hb dL_instrument_21 (by decide) ?_
  exact x_zret hx hb hr rfl rfl hlocks hP hD hS hAe hsz (Nat.le_of_ble_eq_true rfl) (Nat.le_of_ble_eq_true rfl) (fun _ => 0) [0] (by decide) rfl dL_instrument_22

set_option maxHeartbeats 4000000 in
set_option maxRecDepth 100000 in
theorem c2182_X10_instrument (l : Launch) (g : gG) (q1 q39 : Nat) (w3 w4 w5 w6 w7 w8 w9 w10 w11 w12 w13 w14 w15 w16 w17 w18 w19 w20 w21 w22 w23 w24 w25 w26 w27 w28 w29 w30 w31 w32 w33 w34 w35 w36 w37 w38 : Value) (f40 : Nat → Int32) (hf41 : f40 392 = 0) (hf42 : f40 480 = 0) (sz : Nat) : Met l yX10_instrument [Cond.code yX10_instrument cX10_instrument 5 (some .int)] ({ frames := 2, cells := 0, slots := 0, locals := 42 } : Room) (va_Pc [.ref q1, .int 1, .int 1] (PX g sz [(q39, .inl (g.2 0, 497, .inl f40)), (q1, .inr (12, [.ref q39, w3, w4, w5, w6, w7, w8, w9, w10, w11, w12, w13, w14, w15, w16, w17, w18, w19, w20, w21, w22, w23, w24, w25, w26, w27, w28, w29, w30, w31, w32, w33, w34, w35, w36, w37, w38]))])) (QI g [(q39, .inl (g.2 0, 497, .inl f40)), (q1, .inr (12, [.ref q39, w3, w4, w5, w6, w7, w8, w9, w10, w11, w12, w13, w14, w15, w16, w17, w18, w19, w20, w21, w22, w23, w24, w25, w26, w27, w28, w29, w30, w31, w32, w33, w34, w35, w36, w37, w38]))] sz 0 (fun _ => [(q1, .inr (12, [.ref q39, w3, w4, w5, w6, w7, .int 0, w9, w10, w11, w12, w13, w14, w15, w16, w17, w18, w19, w20, w21, w22, w23, w24, w25, w26, w27, w28, w29, w30, w31, w32, w33, w34, w35, w36, w37, w38]))])) 0 0 (va_A [(q39, .inl (g.2 0, 497, .inl f40)), (q1, .inr (12, [.ref q39, w3, w4, w5, w6, w7, w8, w9, w10, w11, w12, w13, w14, w15, w16, w17, w18, w19, w20, w21, w22, w23, w24, w25, w26, w27, w28, w29, w30, w31, w32, w33, w34, w35, w36, w37, w38]))] sz) := by
  refine ofN (by decide) (Nat.le_of_ble_eq_true rfl) rfl ?_
  intro p e s m args below meth c A ls hAe hsz hx hb hml hr hlocks hin hown hE hP hD hA hS hl
  have hown : s.vm.findClass RX10 = some m.cls := hown
  refine lv_aload_n hx hb dX10_instrument_0 rfl (lv_at hl 0 rfl) ?_
  refine lv_iload_n hx hb dX10_instrument_1 rfl (lv_at hl 1 rfl) ?_
  refine g0_i (rS (rest := [.ref q1]) hx hb hml hown hE hP hD (c1857_X10_isInstrument l g 1 (by decide) (by decide) s.heap.size) (kS_X10_isInstrument hE (e1645 hE) rfl rfl ⟨(Nat.le_of_ble_eq_true rfl), (Nat.le_of_ble_eq_true rfl)⟩) [] rfl (by decide) rfl hl.1 rfl (lv_room (Nat.le_of_ble_eq_true rfl)) dX10_instrument_2 ⟨(Nat.le_of_ble_eq_true rfl), (Nat.le_of_ble_eq_true rfl)⟩) hP hD hS hA (fun u9 H locs hP hS => ?_)
  refine lv_if_ne (tgt := 12) hx hb dX10_instrument_5 (by decide) (fun _ => ?_) (fun h => absurd h (by decide))
  refine lv_iload_n hx hb dX10_instrument_12 rfl (lv_at hl 2 rfl) ?_
  refine lv_iconst (v := 0) hx hb dX10_instrument_13 (by decide) ?_
  refine lv_iconst (v := 5) hx hb dX10_instrument_14 (by decide) ?_
  refine g0_i (rS (rest := [.ref q1]) hx hb hml hown hE hP hD (c971_X10_in l g 1 (by decide) (by decide) H.size) (kS_X10_in hE (e1431 hE) rfl rfl ⟨(Nat.le_of_ble_eq_true rfl), (Nat.le_of_ble_eq_true rfl)⟩) [] rfl (by decide) rfl hl.1 rfl (lv_room (Nat.le_of_ble_eq_true rfl)) dX10_instrument_15 ⟨(Nat.le_of_ble_eq_true rfl), (Nat.le_of_ble_eq_true rfl)⟩) hP hD hS hA (fun u9 H locs hP hS => ?_)
  refine lv_if_ne (tgt := 25) hx hb dX10_instrument_18 (by decide) (fun _ => ?_) (fun h => absurd h (by decide))
  refine lv_iconst (v := 0) hx hb dX10_instrument_25 (by decide) ?_
  refine pf_RX10_86 (ws' := [(q39, .inl (g.2 0, 497, .inl f40)), (q1, .inr (12, [.ref q39, w3, w4, w5, w6, w7, .int 0, w9, w10, w11, w12, w13, w14, w15, w16, w17, w18, w19, w20, w21, w22, w23, w24, w25, w26, w27, w28, w29, w30, w31, w32, w33, w34, w35, w36, w37, w38]))]) hx hb hown hE hP hD hS 1 rfl rfl rfl (Nat.le_of_ble_eq_true rfl) dX10_instrument_26 rfl (fun H locs hP hD hS => ?_)
  refine lv_aload_n hx hb dX10_instrument_29 rfl (lv_at hl 0 rfl) ?_
  refine gf_RX10_86 hx hb hown hE hP 1 rfl rfl dX10_instrument_30 ?_
  refine lv_if_le (tgt := 38) hx hb dX10_instrument_33 (by decide) (fun _ => ?_) (fun h => absurd (by decide) h)
  refine lv_iconst (v := 0) hx hb dX10_instrument_38 (by decide) ?_
  refine lv_istore_n (lv' := [(3, .int 0), (0, .ref q1), (1, .int 1), (2, .int 1)]) hx hb dX10_instrument_39 rfl hl (by decide) rfl (fun ls hl => ?_)
  refine lv_iconst (v := 0) hx hb dX10_instrument_40 (by decide) ?_
  refine lv_istore (lv' := [(4, .int 0), (3, .int 0), (0, .ref q1), (1, .int 1), (2, .int 1)]) hx hb dX10_instrument_41 hl (by decide) rfl (fun ls hl => ?_)
  refine lv_iload hx hb dX10_instrument_43 (lv_at hl 0 rfl) ?_
  refine lv_aload_n hx hb dX10_instrument_45 rfl (lv_at hl 2 rfl) ?_
  refine gf_RX10_9 hx hb hown hE hP 1 rfl rfl dX10_instrument_46 ?_
  refine lv_sipush (v := 392) hx hb dX10_instrument_49 (by decide) ?_
  refine x_iald (v := 0) hx hb hE hP 0 rfl 392 (x_in (by decide)) (by decide) hf41 dX10_instrument_52 ?_
  refine lv_icmp_ge (tgt := 81) hx hb dX10_instrument_53 (by decide) (fun _ => ?_) (fun h => absurd (by decide) h)
  refine lv_iload_n hx hb dX10_instrument_81 rfl (lv_at hl 4 rfl) ?_
  refine lv_iconst (v := 5) hx hb dX10_instrument_82 (by decide) ?_
  refine lv_icmp_ne (tgt := 90) hx hb dX10_instrument_83 (by decide) (fun _ => ?_) (fun h => absurd h (by decide))
  refine lv_aload_n hx hb dX10_instrument_90 rfl (lv_at hl 2 rfl) ?_
  refine gf_RX10_9 hx hb hown hE hP 1 rfl rfl dX10_instrument_91 ?_
  refine lv_sipush (v := 474) hx hb dX10_instrument_94 (by decide) ?_
  refine lv_iconst (v := 5) hx hb dX10_instrument_97 (by decide) ?_
  refine lv_iload_n hx hb dX10_instrument_98 rfl (lv_at hl 3 rfl) ?_
  refine x_imul (v := 5) hx hb dX10_instrument_99 (by decide) ?_
  refine x_iadd (v := 479) hx hb dX10_instrument_100 (by decide) ?_
  refine lv_iload_n hx hb dX10_instrument_101 rfl (lv_at hl 4 rfl) ?_
  refine x_iadd (v := 480) hx hb dX10_instrument_102 (by decide) ?_
  refine x_iald (v := 0) hx hb hE hP 0 rfl 480 (x_in (by decide)) (by decide) hf42 dX10_instrument_103 ?_
  exact x_zret hx hb hr rfl rfl hlocks hP hD hS hAe hsz (Nat.le_of_ble_eq_true rfl) (Nat.le_of_ble_eq_true rfl) (fun _ => 0) [1] (by decide) rfl dX10_instrument_104

set_option maxHeartbeats 4000000 in
set_option maxRecDepth 100000 in
theorem c2183_X9_instrument (l : Launch) (g : gG) (q1 q13 q17 q20 q28 : Nat) (w3 w4 w5 w6 w7 w8 w9 w10 w11 w12 w16 w21 w22 w23 w25 w26 w27 : Value) (f18 : Nat → Option Nat) (f29 : Nat → Int32) (hf19 : f18 0 = some q20) (hf30 : f29 7 = 100) (sz : Nat) : Met l yX9_instrument [Cond.code yX9_instrument cX9_instrument 4 (some .int)] ({ frames := 2, cells := 0, slots := 0, locals := 42 } : Room) (va_Pc [.ref q1, .int 1, .int 2] (PX g sz [(q28, .inl (g.2 0, 20, .inl f29)), (q20, .inr (8, [w21, w22, w23, .ref q28, w25, w26, w27])), (q17, .inl (g.2 3, 10, .inr (.inr (.inr (.inr f18))))), (q13, .inr (10, [.ref q17, .int 0, w16])), (q1, .inr (11, [.ref q13, w3, w4, w5, w6, w7, w8, w9, w10, w11, w12]))])) (QI g [(q28, .inl (g.2 0, 20, .inl f29)), (q20, .inr (8, [w21, w22, w23, .ref q28, w25, w26, w27])), (q17, .inl (g.2 3, 10, .inr (.inr (.inr (.inr f18))))), (q13, .inr (10, [.ref q17, .int 0, w16])), (q1, .inr (11, [.ref q13, w3, w4, w5, w6, w7, w8, w9, w10, w11, w12]))] sz 100 (fun _ => [(q1, .inr (11, [.ref q13, w3, w4, w5, w6, w7, w8, w9, w10, w11, w12])), (q17, .inl (g.2 3, 10, .inr (.inr (.inr (.inr f18))))), (q13, .inr (10, [.ref q17, .int 0, w16])), (q28, .inl (g.2 0, 20, .inl f29)), (q20, .inr (8, [w21, w22, w23, .ref q28, w25, w26, w27]))])) 0 0 (va_A [(q28, .inl (g.2 0, 20, .inl f29)), (q20, .inr (8, [w21, w22, w23, .ref q28, w25, w26, w27])), (q17, .inl (g.2 3, 10, .inr (.inr (.inr (.inr f18))))), (q13, .inr (10, [.ref q17, .int 0, w16])), (q1, .inr (11, [.ref q13, w3, w4, w5, w6, w7, w8, w9, w10, w11, w12]))] sz) := by
  refine ofN (by decide) (Nat.le_of_ble_eq_true rfl) rfl ?_
  intro p e s m args below meth c A ls hAe hsz hx hb hml hr hlocks hin hown hE hP hD hA hS hl
  have hown : s.vm.findClass RX9 = some m.cls := hown
  refine lv_iload_n hx hb dX9_instrument_0 rfl (lv_at hl 1 rfl) ?_
  refine g0_v (rS (rest := []) hx hb hml hown hE hP hD (c1854_X9_requireInstrument l g 1 (by decide) (by decide) s.heap.size) (kS_X9_requireInstrument hE (e991 hE) rfl rfl ⟨(Nat.le_of_ble_eq_true rfl), (Nat.le_of_ble_eq_true rfl)⟩) [] rfl (by decide) rfl hl.1 rfl (lv_room (Nat.le_of_ble_eq_true rfl)) dX9_instrument_1 ⟨(Nat.le_of_ble_eq_true rfl), (Nat.le_of_ble_eq_true rfl)⟩) hP hD hS hA (fun u9 H locs hP hS => ?_)
  refine lv_iload_n hx hb dX9_instrument_4 rfl (lv_at hl 2 rfl) ?_
  refine lv_iconst (v := 0) hx hb dX9_instrument_5 (by decide) ?_
  refine lv_iconst (v := 5) hx hb dX9_instrument_6 (by decide) ?_
  refine g0_v (rS (rest := []) hx hb hml hown hE hP hD (c968_X9_requireRange l g 2 (by decide) (by decide) H.size) (kS_X9_requireRange hE (e636 hE) rfl rfl ⟨(Nat.le_of_ble_eq_true rfl), (Nat.le_of_ble_eq_true rfl)⟩) [] rfl (by decide) rfl hl.1 rfl (lv_room (Nat.le_of_ble_eq_true rfl)) dX9_instrument_7 ⟨(Nat.le_of_ble_eq_true rfl), (Nat.le_of_ble_eq_true rfl)⟩) hP hD hS hA (fun u9 H locs hP hS => ?_)
  refine lv_aload_n hx hb dX9_instrument_10 rfl (lv_at hl 0 rfl) ?_
  refine gf_RX9_12 hx hb hown hE hP 4 rfl rfl dX9_instrument_11 ?_
  refine g_r (wr := [(q28, .inl (g.2 0, 20, .inl f29)), (q20, .inr (8, [w21, w22, w23, .ref q28, w25, w26, w27])), (q1, .inr (11, [.ref q13, w3, w4, w5, w6, w7, w8, w9, w10, w11, w12]))]) (rV (rest := []) hx hb hml hown hE hP hD 3 rfl rfl (c71_X8_current l g q13 q17 q20 w16 f18 (hf19) H.size) (kV_X8_current hE (e290 hE) rfl rfl ⟨(Nat.le_of_ble_eq_true rfl), (Nat.le_of_ble_eq_true rfl)⟩) [2, 3] rfl (by decide) rfl hl.1 rfl (lv_room (Nat.le_of_ble_eq_true rfl)) dX9_instrument_14 ⟨(Nat.le_of_ble_eq_true rfl), (Nat.le_of_ble_eq_true rfl)⟩) hP hD hS hA [2, 3] [0, 1, 4] rfl rfl (by decide) (by decide) (fun u3 H locs hP hD hS => ?_)
  have hP : va_P g.1 vwCl [(q28, .inl (g.2 0, 20, .inl f29)), (q20, .inr (8, [w21, w22, w23, .ref q28, w25, w26, w27])), (q1, .inr (11, [.ref q13, w3, w4, w5, w6, w7, w8, w9, w10, w11, w12])), (q17, .inl (g.2 3, 10, .inr (.inr (.inr (.inr f18))))), (q13, .inr (10, [.ref q17, .int 0, w16]))] H := hP
  have hD : va_D A [(q28, .inl (g.2 0, 20, .inl f29)), (q20, .inr (8, [w21, w22, w23, .ref q28, w25, w26, w27])), (q1, .inr (11, [.ref q13, w3, w4, w5, w6, w7, w8, w9, w10, w11, w12])), (q17, .inl (g.2 3, 10, .inr (.inr (.inr (.inr f18))))), (q13, .inr (10, [.ref q17, .int 0, w16]))] := hD
  refine lv_astore_n (lv' := [(3, .ref q20), (0, .ref q1), (1, .int 1), (2, .int 2)]) hx hb dX9_instrument_17 rfl hl (by decide) rfl (fun ls hl => ?_)
  refine lv_iload_n hx hb dX9_instrument_18 rfl (lv_at hl 3 rfl) ?_
  refine lv_iconst (v := 5) hx hb dX9_instrument_19 (by decide) ?_
  refine lv_icmp_ne (tgt := 29) hx hb dX9_instrument_20 (by decide) (fun _ => ?_) (fun h => absurd h (by decide))
  refine lv_aload_n hx hb dX9_instrument_29 rfl (lv_at hl 0 rfl) ?_
  refine lv_iload_n hx hb dX9_instrument_30 rfl (lv_at hl 2 rfl) ?_
  refine lv_iload_n hx hb dX9_instrument_31 rfl (lv_at hl 3 rfl) ?_
  refine g_i (wr := [(q1, .inr (11, [.ref q13, w3, w4, w5, w6, w7, w8, w9, w10, w11, w12])), (q17, .inl (g.2 3, 10, .inr (.inr (.inr (.inr f18))))), (q13, .inr (10, [.ref q17, .int 0, w16]))]) (rV (rest := []) hx hb hml hown hE hP hD 1 rfl rfl (c1886_X6_instrumentNumber l g q20 q28 w21 w22 w23 w25 w26 w27 f29 (hf30) H.size) (kV_X6_instrumentNumber hE (e1010 hE) rfl rfl ⟨(Nat.le_of_ble_eq_true rfl), (Nat.le_of_ble_eq_true rfl)⟩) [0, 1] rfl (by decide) rfl hl.1 rfl (lv_room (Nat.le_of_ble_eq_true rfl)) dX9_instrument_32 ⟨(Nat.le_of_ble_eq_true rfl), (Nat.le_of_ble_eq_true rfl)⟩) hP hD hS hA [0, 1] [2, 3, 4] rfl rfl (by decide) (by decide) (fun u4 H locs hP hD hS => ?_)
  have hP : va_P g.1 vwCl [(q1, .inr (11, [.ref q13, w3, w4, w5, w6, w7, w8, w9, w10, w11, w12])), (q17, .inl (g.2 3, 10, .inr (.inr (.inr (.inr f18))))), (q13, .inr (10, [.ref q17, .int 0, w16])), (q28, .inl (g.2 0, 20, .inl f29)), (q20, .inr (8, [w21, w22, w23, .ref q28, w25, w26, w27]))] H := hP
  have hD : va_D A [(q1, .inr (11, [.ref q13, w3, w4, w5, w6, w7, w8, w9, w10, w11, w12])), (q17, .inl (g.2 3, 10, .inr (.inr (.inr (.inr f18))))), (q13, .inr (10, [.ref q17, .int 0, w16])), (q28, .inl (g.2 0, 20, .inl f29)), (q20, .inr (8, [w21, w22, w23, .ref q28, w25, w26, w27]))] := hD
  exact x_zret hx hb hr rfl rfl hlocks hP hD hS hAe hsz (Nat.le_of_ble_eq_true rfl) (Nat.le_of_ble_eq_true rfl) (fun _ => 0) [0, 1, 2, 3, 4] (by decide) rfl dX9_instrument_35

set_option maxHeartbeats 4000000 in
set_option maxRecDepth 100000 in
theorem c2184_L_instrument (l : Launch) (g : gG) (hlx : l.stackTraces = false) (q1 q2 q14 q18 q21 q29 : Nat) (w4 w5 w6 w7 w8 w9 w10 w11 w12 w13 w17 w22 w23 w24 w26 w27 w28 : Value) (f19 : Nat → Option Nat) (f30 : Nat → Int32) (f32 : Nat → Int64) (hf20 : f19 0 = some q21) (hf31 : f30 7 = 100) (sz : Nat) : Met l yL_instrument [Cond.codeWith yL_instrument cL_instrument 5 (some .int) [(0, 10, 13, 13), (0, 10, 17, 15)]] ({ frames := 3, cells := 0, slots := 0, locals := 65 } : Room) (va_Pc [.ref q1, .int 1, .int 2, .ref q2] (PZ g sz [(q2, .inl (g.2 1, 1, .inr (.inl f32))), (q29, .inl (g.2 0, 20, .inl f30)), (q21, .inr (8, [w22, w23, w24, .ref q29, w26, w27, w28])), (q18, .inl (g.2 3, 10, .inr (.inr (.inr (.inr f19))))), (q14, .inr (10, [.ref q18, .int 0, w17])), (q1, .inr (11, [.ref q14, w4, w5, w6, w7, w8, w9, w10, w11, w12, w13]))])) (QI g [(q2, .inl (g.2 1, 1, .inr (.inl f32))), (q29, .inl (g.2 0, 20, .inl f30)), (q21, .inr (8, [w22, w23, w24, .ref q29, w26, w27, w28])), (q18, .inl (g.2 3, 10, .inr (.inr (.inr (.inr f19))))), (q14, .inr (10, [.ref q18, .int 0, w17])), (q1, .inr (11, [.ref q14, w4, w5, w6, w7, w8, w9, w10, w11, w12, w13]))] sz 0 (fun _ => [(q2, .inl (g.2 1, 1, .inr (.inl (vp_updL f32 0 100))))])) 0 0 (va_A [(q2, .inl (g.2 1, 1, .inr (.inl f32))), (q29, .inl (g.2 0, 20, .inl f30)), (q21, .inr (8, [w22, w23, w24, .ref q29, w26, w27, w28])), (q18, .inl (g.2 3, 10, .inr (.inr (.inr (.inr f19))))), (q14, .inr (10, [.ref q18, .int 0, w17])), (q1, .inr (11, [.ref q14, w4, w5, w6, w7, w8, w9, w10, w11, w12, w13]))] sz) := by
  refine ofH (by decide) (Nat.le_of_ble_eq_true rfl) rfl ?_
  intro p e s m args below meth c A ls hAe hsz hx hb hml hr hlocks hin hown hE hP hD hA hS hl htb hz
  have hown : s.vm.findClass RL = some m.cls := hown
  refine lv_aload_n hx hb dL_instrument_0 rfl (lv_at hl 3 rfl) ?_
  refine lv_iconst (v := 0) hx hb dL_instrument_1 (by decide) ?_
  refine lv_aload_n hx hb dL_instrument_2 rfl (lv_at hl 0 rfl) ?_
  refine lv_iload_n hx hb dL_instrument_3 rfl (lv_at hl 1 rfl) ?_
  refine lv_iload_n hx hb dL_instrument_4 rfl (lv_at hl 2 rfl) ?_
  refine g_i (wr := [(q2, .inl (g.2 1, 1, .inr (.inl f32)))]) (rV (rest := [.int 0, .ref q2]) hx hb hml hown hE hP hD 5 rfl rfl (c2183_X9_instrument l g q1 q14 q18 q21 q29 w4 w5 w6 w7 w8 w9 w10 w11 w12 w13 w17 w22 w23 w24 w26 w27 w28 f19 f30 (hf20) (hf31) s.heap.size) (kV_X9_instrument hE (e1015 hE) rfl rfl ⟨(Nat.le_of_ble_eq_true rfl), (Nat.le_of_ble_eq_true rfl)⟩) [1, 2, 3, 4, 5] rfl (by decide) rfl hl.1 rfl (lv_room (Nat.le_of_ble_eq_true rfl)) dL_instrument_5 ⟨(Nat.le_of_ble_eq_true rfl), (Nat.le_of_ble_eq_true rfl)⟩) hP hD hS hA [1, 2, 3, 4, 5] [0] rfl rfl (by decide) (by decide) (fun u1 H locs hP hD hS => ?_)
  have hP : va_P g.1 vwCl [(q2, .inl (g.2 1, 1, .inr (.inl f32))), (q1, .inr (11, [.ref q14, w4, w5, w6, w7, w8, w9, w10, w11, w12, w13])), (q18, .inl (g.2 3, 10, .inr (.inr (.inr (.inr f19))))), (q14, .inr (10, [.ref q18, .int 0, w17])), (q29, .inl (g.2 0, 20, .inl f30)), (q21, .inr (8, [w22, w23, w24, .ref q29, w26, w27, w28]))] H := hP
  have hD : va_D A [(q2, .inl (g.2 1, 1, .inr (.inl f32))), (q1, .inr (11, [.ref q14, w4, w5, w6, w7, w8, w9, w10, w11, w12, w13])), (q18, .inl (g.2 3, 10, .inr (.inr (.inr (.inr f19))))), (q14, .inr (10, [.ref q18, .int 0, w17])), (q29, .inl (g.2 0, 20, .inl f30)), (q21, .inr (8, [w22, w23, w24, .ref q29, w26, w27, w28]))] := hD
  refine lv_i2l (v := 100) hx hb dL_instrument_8 (by decide) ?_
  refine x_last (ws' := [(q2, .inl (g.2 1, 1, .inr (.inl (vp_updL f32 0 100)))), (q1, .inr (11, [.ref q14, w4, w5, w6, w7, w8, w9, w10, w11, w12, w13])), (q18, .inl (g.2 3, 10, .inr (.inr (.inr (.inr f19))))), (q14, .inr (10, [.ref q18, .int 0, w17])), (q29, .inl (g.2 0, 20, .inl f30)), (q21, .inr (8, [w22, w23, w24, .ref q29, w26, w27, w28]))]) hx hb hE hP hD hS 0 rfl 0 (x_in (by decide)) (by decide) dL_instrument_9 rfl (fun H locs hP hD hS => ?_)
  refine lv_goto (tgt := 21) hx hb dL_instrument_10 (by decide) ?_
  refine lv_iconst (v := 0) hx hb dL_instrument_21 (by decide) ?_
  exact x_zret hx hb hr rfl rfl hlocks hP hD hS hAe hsz (Nat.le_of_ble_eq_true rfl) (Nat.le_of_ble_eq_true rfl) (fun _ => 0) [0] (by decide) rfl dL_instrument_22

set_option maxHeartbeats 4000000 in
set_option maxRecDepth 100000 in
theorem c2185_X10_instrument (l : Launch) (g : gG) (q1 q39 : Nat) (w3 w4 w5 w6 w7 w8 w9 w10 w11 w12 w13 w14 w15 w16 w17 w18 w19 w20 w21 w22 w23 w24 w25 w26 w27 w28 w29 w30 w31 w32 w33 w34 w35 w36 w37 w38 : Value) (f40 : Nat → Int32) (hf41 : f40 392 = 0) (hf42 : f40 481 = 100) (sz : Nat) : Met l yX10_instrument [Cond.code yX10_instrument cX10_instrument 5 (some .int)] ({ frames := 2, cells := 0, slots := 0, locals := 42 } : Room) (va_Pc [.ref q1, .int 1, .int 2] (PX g sz [(q39, .inl (g.2 0, 497, .inl f40)), (q1, .inr (12, [.ref q39, w3, w4, w5, w6, w7, w8, w9, w10, w11, w12, w13, w14, w15, w16, w17, w18, w19, w20, w21, w22, w23, w24, w25, w26, w27, w28, w29, w30, w31, w32, w33, w34, w35, w36, w37, w38]))])) (QI g [(q39, .inl (g.2 0, 497, .inl f40)), (q1, .inr (12, [.ref q39, w3, w4, w5, w6, w7, w8, w9, w10, w11, w12, w13, w14, w15, w16, w17, w18, w19, w20, w21, w22, w23, w24, w25, w26, w27, w28, w29, w30, w31, w32, w33, w34, w35, w36, w37, w38]))] sz 100 (fun _ => [(q1, .inr (12, [.ref q39, w3, w4, w5, w6, w7, .int 0, w9, w10, w11, w12, w13, w14, w15, w16, w17, w18, w19, w20, w21, w22, w23, w24, w25, w26, w27, w28, w29, w30, w31, w32, w33, w34, w35, w36, w37, w38]))])) 0 0 (va_A [(q39, .inl (g.2 0, 497, .inl f40)), (q1, .inr (12, [.ref q39, w3, w4, w5, w6, w7, w8, w9, w10, w11, w12, w13, w14, w15, w16, w17, w18, w19, w20, w21, w22, w23, w24, w25, w26, w27, w28, w29, w30, w31, w32, w33, w34, w35, w36, w37, w38]))] sz) := by
  refine ofN (by decide) (Nat.le_of_ble_eq_true rfl) rfl ?_
  intro p e s m args below meth c A ls hAe hsz hx hb hml hr hlocks hin hown hE hP hD hA hS hl
  have hown : s.vm.findClass RX10 = some m.cls := hown
  refine lv_aload_n hx hb dX10_instrument_0 rfl (lv_at hl 0 rfl) ?_
  refine lv_iload_n hx hb dX10_instrument_1 rfl (lv_at hl 1 rfl) ?_
  refine g0_i (rS (rest := [.ref q1]) hx hb hml hown hE hP hD (c1857_X10_isInstrument l g 1 (by decide) (by decide) s.heap.size) (kS_X10_isInstrument hE (e1645 hE) rfl rfl ⟨(Nat.le_of_ble_eq_true rfl), (Nat.le_of_ble_eq_true rfl)⟩) [] rfl (by decide) rfl hl.1 rfl (lv_room (Nat.le_of_ble_eq_true rfl)) dX10_instrument_2 ⟨(Nat.le_of_ble_eq_true rfl), (Nat.le_of_ble_eq_true rfl)⟩) hP hD hS hA (fun u9 H locs hP hS => ?_)
  refine lv_if_ne (tgt := 12) hx hb dX10_instrument_5 (by decide) (fun _ => ?_) (fun h => absurd h (by decide))
  refine lv_iload_n hx hb dX10_instrument_12 rfl (lv_at hl 2 rfl) ?_
  refine lv_iconst (v := 0) hx hb dX10_instrument_13 (by decide) ?_
  refine lv_iconst (v := 5) hx hb dX10_instrument_14 (by decide) ?_
  refine g0_i (rS (rest := [.ref q1]) hx hb hml hown hE hP hD (c971_X10_in l g 2 (by decide) (by decide) H.size) (kS_X10_in hE (e1431 hE) rfl rfl ⟨(Nat.le_of_ble_eq_true rfl), (Nat.le_of_ble_eq_true rfl)⟩) [] rfl (by decide) rfl hl.1 rfl (lv_room (Nat.le_of_ble_eq_true rfl)) dX10_instrument_15 ⟨(Nat.le_of_ble_eq_true rfl), (Nat.le_of_ble_eq_true rfl)⟩) hP hD hS hA (fun u9 H locs hP hS => ?_)
  refine lv_if_ne (tgt := 25) hx hb dX10_instrument_18 (by decide) (fun _ => ?_) (fun h => absurd h (by decide))
  refine lv_iconst (v := 0) hx hb dX10_instrument_25 (by decide) ?_
  refine pf_RX10_86 (ws' := [(q39, .inl (g.2 0, 497, .inl f40)), (q1, .inr (12, [.ref q39, w3, w4, w5, w6, w7, .int 0, w9, w10, w11, w12, w13, w14, w15, w16, w17, w18, w19, w20, w21, w22, w23, w24, w25, w26, w27, w28, w29, w30, w31, w32, w33, w34, w35, w36, w37, w38]))]) hx hb hown hE hP hD hS 1 rfl rfl rfl (Nat.le_of_ble_eq_true rfl) dX10_instrument_26 rfl (fun H locs hP hD hS => ?_)
  refine lv_aload_n hx hb dX10_instrument_29 rfl (lv_at hl 0 rfl) ?_
  refine gf_RX10_86 hx hb hown hE hP 1 rfl rfl dX10_instrument_30 ?_
  refine lv_if_le (tgt := 38) hx hb dX10_instrument_33 (by decide) (fun _ => ?_) (fun h => absurd (by decide) h)
  refine lv_iconst (v := 0) hx hb dX10_instrument_38 (by decide) ?_
  refine lv_istore_n (lv' := [(3, .int 0), (0, .ref q1), (1, .int 1), (2, .int 2)]) hx hb dX10_instrument_39 rfl hl (by decide) rfl (fun ls hl => ?_)
  refine lv_iconst (v := 0) hx hb dX10_instrument_40 (by decide) ?_
  refine lv_istore (lv' := [(4, .int 0), (3, .int 0), (0, .ref q1), (1, .int 1), (2, .int 2)]) hx hb dX10_instrument_41 hl (by decide) rfl (fun ls hl => ?_)
  refine lv_iload hx hb dX10_instrument_43 (lv_at hl 0 rfl) ?_
  refine lv_aload_n hx hb dX10_instrument_45 rfl (lv_at hl 2 rfl) ?_
  refine gf_RX10_9 hx hb hown hE hP 1 rfl rfl dX10_instrument_46 ?_
  refine lv_sipush (v := 392) hx hb dX10_instrument_49 (by decide) ?_
  refine x_iald (v := 0) hx hb hE hP 0 rfl 392 (x_in (by decide)) (by decide) hf41 dX10_instrument_52 ?_
  refine lv_icmp_ge (tgt := 81) hx hb dX10_instrument_53 (by decide) (fun _ => ?_) (fun h => absurd (by decide) h)
  refine lv_iload_n hx hb dX10_instrument_81 rfl (lv_at hl 4 rfl) ?_
  refine lv_iconst (v := 5) hx hb dX10_instrument_82 (by decide) ?_
  refine lv_icmp_ne (tgt := 90) hx hb dX10_instrument_83 (by decide) (fun _ => ?_) (fun h => absurd h (by decide))
  refine lv_aload_n hx hb dX10_instrument_90 rfl (lv_at hl 2 rfl) ?_
  refine gf_RX10_9 hx hb hown hE hP 1 rfl rfl dX10_instrument_91 ?_
  refine lv_sipush (v := 474) hx hb dX10_instrument_94 (by decide) ?_
  refine lv_iconst (v := 5) hx hb dX10_instrument_97 (by decide) ?_
  refine lv_iload_n hx hb dX10_instrument_98 rfl (lv_at hl 3 rfl) ?_
  refine x_imul (v := 5) hx hb dX10_instrument_99 (by decide) ?_
  refine x_iadd (v := 479) hx hb dX10_instrument_100 (by decide) ?_
  refine lv_iload_n hx hb dX10_instrument_101 rfl (lv_at hl 4 rfl) ?_
  refine x_iadd (v := 481) hx hb dX10_instrument_102 (by decide) ?_
  refine x_iald (v := 100) hx hb hE hP 0 rfl 481 (x_in (by decide)) (by decide) hf42 dX10_instrument_103 ?_
  exact x_zret hx hb hr rfl rfl hlocks hP hD hS hAe hsz (Nat.le_of_ble_eq_true rfl) (Nat.le_of_ble_eq_true rfl) (fun _ => 0) [1] (by decide) rfl dX10_instrument_104

set_option maxHeartbeats 4000000 in
set_option maxRecDepth 100000 in
theorem c2186_X9_instrument (l : Launch) (g : gG) (q1 q13 q17 q20 q28 : Nat) (w3 w4 w5 w6 w7 w8 w9 w10 w11 w12 w16 w21 w22 w23 w25 w26 w27 : Value) (f18 : Nat → Option Nat) (f29 : Nat → Int32) (hf19 : f18 0 = some q20) (hf30 : f29 8 = 0) (sz : Nat) : Met l yX9_instrument [Cond.code yX9_instrument cX9_instrument 4 (some .int)] ({ frames := 2, cells := 0, slots := 0, locals := 42 } : Room) (va_Pc [.ref q1, .int 1, .int 3] (PX g sz [(q28, .inl (g.2 0, 20, .inl f29)), (q20, .inr (8, [w21, w22, w23, .ref q28, w25, w26, w27])), (q17, .inl (g.2 3, 10, .inr (.inr (.inr (.inr f18))))), (q13, .inr (10, [.ref q17, .int 0, w16])), (q1, .inr (11, [.ref q13, w3, w4, w5, w6, w7, w8, w9, w10, w11, w12]))])) (QI g [(q28, .inl (g.2 0, 20, .inl f29)), (q20, .inr (8, [w21, w22, w23, .ref q28, w25, w26, w27])), (q17, .inl (g.2 3, 10, .inr (.inr (.inr (.inr f18))))), (q13, .inr (10, [.ref q17, .int 0, w16])), (q1, .inr (11, [.ref q13, w3, w4, w5, w6, w7, w8, w9, w10, w11, w12]))] sz 0 (fun _ => [(q1, .inr (11, [.ref q13, w3, w4, w5, w6, w7, w8, w9, w10, w11, w12])), (q17, .inl (g.2 3, 10, .inr (.inr (.inr (.inr f18))))), (q13, .inr (10, [.ref q17, .int 0, w16])), (q28, .inl (g.2 0, 20, .inl f29)), (q20, .inr (8, [w21, w22, w23, .ref q28, w25, w26, w27]))])) 0 0 (va_A [(q28, .inl (g.2 0, 20, .inl f29)), (q20, .inr (8, [w21, w22, w23, .ref q28, w25, w26, w27])), (q17, .inl (g.2 3, 10, .inr (.inr (.inr (.inr f18))))), (q13, .inr (10, [.ref q17, .int 0, w16])), (q1, .inr (11, [.ref q13, w3, w4, w5, w6, w7, w8, w9, w10, w11, w12]))] sz) := by
  refine ofN (by decide) (Nat.le_of_ble_eq_true rfl) rfl ?_
  intro p e s m args below meth c A ls hAe hsz hx hb hml hr hlocks hin hown hE hP hD hA hS hl
  have hown : s.vm.findClass RX9 = some m.cls := hown
  refine lv_iload_n hx hb dX9_instrument_0 rfl (lv_at hl 1 rfl) ?_
  refine g0_v (rS (rest := []) hx hb hml hown hE hP hD (c1854_X9_requireInstrument l g 1 (by decide) (by decide) s.heap.size) (kS_X9_requireInstrument hE (e991 hE) rfl rfl ⟨(Nat.le_of_ble_eq_true rfl), (Nat.le_of_ble_eq_true rfl)⟩) [] rfl (by decide) rfl hl.1 rfl (lv_room (Nat.le_of_ble_eq_true rfl)) dX9_instrument_1 ⟨(Nat.le_of_ble_eq_true rfl), (Nat.le_of_ble_eq_true rfl)⟩) hP hD hS hA (fun u9 H locs hP hS => ?_)
  refine lv_iload_n hx hb dX9_instrument_4 rfl (lv_at hl 2 rfl) ?_
  refine lv_iconst (v := 0) hx hb dX9_instrument_5 (by decide) ?_
  refine lv_iconst (v := 5) hx hb dX9_instrument_6 (by decide) ?_
  refine g0_v (rS (rest := []) hx hb hml hown hE hP hD (c968_X9_requireRange l g 3 (by decide) (by decide) H.size) (kS_X9_requireRange hE (e636 hE) rfl rfl ⟨(Nat.le_of_ble_eq_true rfl), (Nat.le_of_ble_eq_true rfl)⟩) [] rfl (by decide) rfl hl.1 rfl (lv_room (Nat.le_of_ble_eq_true rfl)) dX9_instrument_7 ⟨(Nat.le_of_ble_eq_true rfl), (Nat.le_of_ble_eq_true rfl)⟩) hP hD hS hA (fun u9 H locs hP hS => ?_)
  refine lv_aload_n hx hb dX9_instrument_10 rfl (lv_at hl 0 rfl) ?_
  refine gf_RX9_12 hx hb hown hE hP 4 rfl rfl dX9_instrument_11 ?_
  refine g_r (wr := [(q28, .inl (g.2 0, 20, .inl f29)), (q20, .inr (8, [w21, w22, w23, .ref q28, w25, w26, w27])), (q1, .inr (11, [.ref q13, w3, w4, w5, w6, w7, w8, w9, w10, w11, w12]))]) (rV (rest := []) hx hb hml hown hE hP hD 3 rfl rfl (c71_X8_current l g q13 q17 q20 w16 f18 (hf19) H.size) (kV_X8_current hE (e290 hE) rfl rfl ⟨(Nat.le_of_ble_eq_true rfl), (Nat.le_of_ble_eq_true rfl)⟩) [2, 3] rfl (by decide) rfl hl.1 rfl (lv_room (Nat.le_of_ble_eq_true rfl)) dX9_instrument_14 ⟨(Nat.le_of_ble_eq_true rfl), (Nat.le_of_ble_eq_true rfl)⟩) hP hD hS hA [2, 3] [0, 1, 4] rfl rfl (by decide) (by decide) (fun u3 H locs hP hD hS => ?_)
  have hP : va_P g.1 vwCl [(q28, .inl (g.2 0, 20, .inl f29)), (q20, .inr (8, [w21, w22, w23, .ref q28, w25, w26, w27])), (q1, .inr (11, [.ref q13, w3, w4, w5, w6, w7, w8, w9, w10, w11, w12])), (q17, .inl (g.2 3, 10, .inr (.inr (.inr (.inr f18))))), (q13, .inr (10, [.ref q17, .int 0, w16]))] H := hP
  have hD : va_D A [(q28, .inl (g.2 0, 20, .inl f29)), (q20, .inr (8, [w21, w22, w23, .ref q28, w25, w26, w27])), (q1, .inr (11, [.ref q13, w3, w4, w5, w6, w7, w8, w9, w10, w11, w12])), (q17, .inl (g.2 3, 10, .inr (.inr (.inr (.inr f18))))), (q13, .inr (10, [.ref q17, .int 0, w16]))] := hD
  refine lv_astore_n (lv' := [(3, .ref q20), (0, .ref q1), (1, .int 1), (2, .int 3)]) hx hb dX9_instrument_17 rfl hl (by decide) rfl (fun ls hl => ?_)
  refine lv_iload_n hx hb dX9_instrument_18 rfl (lv_at hl 3 rfl) ?_
  refine lv_iconst (v := 5) hx hb dX9_instrument_19 (by decide) ?_
  refine lv_icmp_ne (tgt := 29) hx hb dX9_instrument_20 (by decide) (fun _ => ?_) (fun h => absurd h (by decide))
  refine lv_aload_n hx hb dX9_instrument_29 rfl (lv_at hl 0 rfl) ?_
  refine lv_iload_n hx hb dX9_instrument_30 rfl (lv_at hl 2 rfl) ?_
  refine lv_iload_n hx hb dX9_instrument_31 rfl (lv_at hl 3 rfl) ?_
  refine g_i (wr := [(q1, .inr (11, [.ref q13, w3, w4, w5, w6, w7, w8, w9, w10, w11, w12])), (q17, .inl (g.2 3, 10, .inr (.inr (.inr (.inr f18))))), (q13, .inr (10, [.ref q17, .int 0, w16]))]) (rV (rest := []) hx hb hml hown hE hP hD 1 rfl rfl (c1887_X6_instrumentNumber l g q20 q28 w21 w22 w23 w25 w26 w27 f29 (hf30) H.size) (kV_X6_instrumentNumber hE (e1010 hE) rfl rfl ⟨(Nat.le_of_ble_eq_true rfl), (Nat.le_of_ble_eq_true rfl)⟩) [0, 1] rfl (by decide) rfl hl.1 rfl (lv_room (Nat.le_of_ble_eq_true rfl)) dX9_instrument_32 ⟨(Nat.le_of_ble_eq_true rfl), (Nat.le_of_ble_eq_true rfl)⟩) hP hD hS hA [0, 1] [2, 3, 4] rfl rfl (by decide) (by decide) (fun u4 H locs hP hD hS => ?_)
  have hP : va_P g.1 vwCl [(q1, .inr (11, [.ref q13, w3, w4, w5, w6, w7, w8, w9, w10, w11, w12])), (q17, .inl (g.2 3, 10, .inr (.inr (.inr (.inr f18))))), (q13, .inr (10, [.ref q17, .int 0, w16])), (q28, .inl (g.2 0, 20, .inl f29)), (q20, .inr (8, [w21, w22, w23, .ref q28, w25, w26, w27]))] H := hP
  have hD : va_D A [(q1, .inr (11, [.ref q13, w3, w4, w5, w6, w7, w8, w9, w10, w11, w12])), (q17, .inl (g.2 3, 10, .inr (.inr (.inr (.inr f18))))), (q13, .inr (10, [.ref q17, .int 0, w16])), (q28, .inl (g.2 0, 20, .inl f29)), (q20, .inr (8, [w21, w22, w23, .ref q28, w25, w26, w27]))] := hD
  exact x_zret hx hb hr rfl rfl hlocks hP hD hS hAe hsz (Nat.le_of_ble_eq_true rfl) (Nat.le_of_ble_eq_true rfl) (fun _ => 0) [0, 1, 2, 3, 4] (by decide) rfl dX9_instrument_35

set_option maxHeartbeats 4000000 in
set_option maxRecDepth 100000 in
theorem c2187_L_instrument (l : Launch) (g : gG) (hlx : l.stackTraces = false) (q1 q2 q14 q18 q21 q29 : Nat) (w4 w5 w6 w7 w8 w9 w10 w11 w12 w13 w17 w22 w23 w24 w26 w27 w28 : Value) (f19 : Nat → Option Nat) (f30 : Nat → Int32) (f32 : Nat → Int64) (hf20 : f19 0 = some q21) (hf31 : f30 8 = 0) (sz : Nat) : Met l yL_instrument [Cond.codeWith yL_instrument cL_instrument 5 (some .int) [(0, 10, 13, 13), (0, 10, 17, 15)]] ({ frames := 3, cells := 0, slots := 0, locals := 65 } : Room) (va_Pc [.ref q1, .int 1, .int 3, .ref q2] (PZ g sz [(q2, .inl (g.2 1, 1, .inr (.inl f32))), (q29, .inl (g.2 0, 20, .inl f30)), (q21, .inr (8, [w22, w23, w24, .ref q29, w26, w27, w28])), (q18, .inl (g.2 3, 10, .inr (.inr (.inr (.inr f19))))), (q14, .inr (10, [.ref q18, .int 0, w17])), (q1, .inr (11, [.ref q14, w4, w5, w6, w7, w8, w9, w10, w11, w12, w13]))])) (QI g [(q2, .inl (g.2 1, 1, .inr (.inl f32))), (q29, .inl (g.2 0, 20, .inl f30)), (q21, .inr (8, [w22, w23, w24, .ref q29, w26, w27, w28])), (q18, .inl (g.2 3, 10, .inr (.inr (.inr (.inr f19))))), (q14, .inr (10, [.ref q18, .int 0, w17])), (q1, .inr (11, [.ref q14, w4, w5, w6, w7, w8, w9, w10, w11, w12, w13]))] sz 0 (fun _ => [(q2, .inl (g.2 1, 1, .inr (.inl (vp_updL f32 0 0))))])) 0 0 (va_A [(q2, .inl (g.2 1, 1, .inr (.inl f32))), (q29, .inl (g.2 0, 20, .inl f30)), (q21, .inr (8, [w22, w23, w24, .ref q29, w26, w27, w28])), (q18, .inl (g.2 3, 10, .inr (.inr (.inr (.inr f19))))), (q14, .inr (10, [.ref q18, .int 0, w17])), (q1, .inr (11, [.ref q14, w4, w5, w6, w7, w8, w9, w10, w11, w12, w13]))] sz) := by
  refine ofH (by decide) (Nat.le_of_ble_eq_true rfl) rfl ?_
  intro p e s m args below meth c A ls hAe hsz hx hb hml hr hlocks hin hown hE hP hD hA hS hl htb hz
  have hown : s.vm.findClass RL = some m.cls := hown
  refine lv_aload_n hx hb dL_instrument_0 rfl (lv_at hl 3 rfl) ?_
  refine lv_iconst (v := 0) hx hb dL_instrument_1 (by decide) ?_
  refine lv_aload_n hx hb dL_instrument_2 rfl (lv_at hl 0 rfl) ?_
  refine lv_iload_n hx hb dL_instrument_3 rfl (lv_at hl 1 rfl) ?_
  refine lv_iload_n hx hb dL_instrument_4 rfl (lv_at hl 2 rfl) ?_
  refine g_i (wr := [(q2, .inl (g.2 1, 1, .inr (.inl f32)))]) (rV (rest := [.int 0, .ref q2]) hx hb hml hown hE hP hD 5 rfl rfl (c2186_X9_instrument l g q1 q14 q18 q21 q29 w4 w5 w6 w7 w8 w9 w10 w11 w12 w13 w17 w22 w23 w24 w26 w27 w28 f19 f30 (hf20) (hf31) s.heap.size) (kV_X9_instrument hE (e1015 hE) rfl rfl ⟨(Nat.le_of_ble_eq_true rfl), (Nat.le_of_ble_eq_true rfl)⟩) [1, 2, 3, 4, 5] rfl (by decide) rfl hl.1 rfl (lv_room (Nat.le_of_ble_eq_true rfl)) dL_instrument_5 ⟨(Nat.le_of_ble_eq_true rfl), (Nat.le_of_ble_eq_true rfl)⟩) hP hD hS hA [1, 2, 3, 4, 5] [0] rfl rfl (by decide) (by decide) (fun u1 H locs hP hD hS => ?_)
  have hP : va_P g.1 vwCl [(q2, .inl (g.2 1, 1, .inr (.inl f32))), (q1, .inr (11, [.ref q14, w4, w5, w6, w7, w8, w9, w10, w11, w12, w13])), (q18, .inl (g.2 3, 10, .inr (.inr (.inr (.inr f19))))), (q14, .inr (10, [.ref q18, .int 0, w17])), (q29, .inl (g.2 0, 20, .inl f30)), (q21, .inr (8, [w22, w23, w24, .ref q29, w26, w27, w28]))] H := hP
  have hD : va_D A [(q2, .inl (g.2 1, 1, .inr (.inl f32))), (q1, .inr (11, [.ref q14, w4, w5, w6, w7, w8, w9, w10, w11, w12, w13])), (q18, .inl (g.2 3, 10, .inr (.inr (.inr (.inr f19))))), (q14, .inr (10, [.ref q18, .int 0, w17])), (q29, .inl (g.2 0, 20, .inl f30)), (q21, .inr (8, [w22, w23, w24, .ref q29, w26, w27, w28]))] := hD
  refine lv_i2l (v := 0) hx hb dL_instrument_8 (by decide) ?_
  refine x_last (ws' := [(q2, .inl (g.2 1, 1, .inr (.inl (vp_updL f32 0 0)))), (q1, .inr (11, [.ref q14, w4, w5, w6, w7, w8, w9, w10, w11, w12, w13])), (q18, .inl (g.2 3, 10, .inr (.inr (.inr (.inr f19))))), (q14, .inr (10, [.ref q18, .int 0, w17])), (q29, .inl (g.2 0, 20, .inl f30)), (q21, .inr (8, [w22, w23, w24, .ref q29, w26, w27, w28]))]) hx hb hE hP hD hS 0 rfl 0 (x_in (by decide)) (by decide) dL_instrument_9 rfl (fun H locs hP hD hS => ?_)
  refine lv_goto (tgt := 21) hx hb dL_instrument_10 (by decide) ?_
  refine lv_iconst (v := 0) hx hb dL_instrument_21 (by decide) ?_
  exact x_zret hx hb hr rfl rfl hlocks hP hD hS hAe hsz (Nat.le_of_ble_eq_true rfl) (Nat.le_of_ble_eq_true rfl) (fun _ => 0) [0] (by decide) rfl dL_instrument_22

set_option maxHeartbeats 4000000 in
set_option maxRecDepth 100000 in
theorem c2188_X10_instrument (l : Launch) (g : gG) (q1 q39 : Nat) (w3 w4 w5 w6 w7 w8 w9 w10 w11 w12 w13 w14 w15 w16 w17 w18 w19 w20 w21 w22 w23 w24 w25 w26 w27 w28 w29 w30 w31 w32 w33 w34 w35 w36 w37 w38 : Value) (f40 : Nat → Int32) (hf41 : f40 392 = 0) (hf42 : f40 482 = 0) (sz : Nat) : Met l yX10_instrument [Cond.code yX10_instrument cX10_instrument 5 (some .int)] ({ frames := 2, cells := 0, slots := 0, locals := 42 } : Room) (va_Pc [.ref q1, .int 1, .int 3] (PX g sz [(q39, .inl (g.2 0, 497, .inl f40)), (q1, .inr (12, [.ref q39, w3, w4, w5, w6, w7, w8, w9, w10, w11, w12, w13, w14, w15, w16, w17, w18, w19, w20, w21, w22, w23, w24, w25, w26, w27, w28, w29, w30, w31, w32, w33, w34, w35, w36, w37, w38]))])) (QI g [(q39, .inl (g.2 0, 497, .inl f40)), (q1, .inr (12, [.ref q39, w3, w4, w5, w6, w7, w8, w9, w10, w11, w12, w13, w14, w15, w16, w17, w18, w19, w20, w21, w22, w23, w24, w25, w26, w27, w28, w29, w30, w31, w32, w33, w34, w35, w36, w37, w38]))] sz 0 (fun _ => [(q1, .inr (12, [.ref q39, w3, w4, w5, w6, w7, .int 0, w9, w10, w11, w12, w13, w14, w15, w16, w17, w18, w19, w20, w21, w22, w23, w24, w25, w26, w27, w28, w29, w30, w31, w32, w33, w34, w35, w36, w37, w38]))])) 0 0 (va_A [(q39, .inl (g.2 0, 497, .inl f40)), (q1, .inr (12, [.ref q39, w3, w4, w5, w6, w7, w8, w9, w10, w11, w12, w13, w14, w15, w16, w17, w18, w19, w20, w21, w22, w23, w24, w25, w26, w27, w28, w29, w30, w31, w32, w33, w34, w35, w36, w37, w38]))] sz) := by
  refine ofN (by decide) (Nat.le_of_ble_eq_true rfl) rfl ?_
  intro p e s m args below meth c A ls hAe hsz hx hb hml hr hlocks hin hown hE hP hD hA hS hl
  have hown : s.vm.findClass RX10 = some m.cls := hown
  refine lv_aload_n hx hb dX10_instrument_0 rfl (lv_at hl 0 rfl) ?_
  refine lv_iload_n hx hb dX10_instrument_1 rfl (lv_at hl 1 rfl) ?_
  refine g0_i (rS (rest := [.ref q1]) hx hb hml hown hE hP hD (c1857_X10_isInstrument l g 1 (by decide) (by decide) s.heap.size) (kS_X10_isInstrument hE (e1645 hE) rfl rfl ⟨(Nat.le_of_ble_eq_true rfl), (Nat.le_of_ble_eq_true rfl)⟩) [] rfl (by decide) rfl hl.1 rfl (lv_room (Nat.le_of_ble_eq_true rfl)) dX10_instrument_2 ⟨(Nat.le_of_ble_eq_true rfl), (Nat.le_of_ble_eq_true rfl)⟩) hP hD hS hA (fun u9 H locs hP hS => ?_)
  refine lv_if_ne (tgt := 12) hx hb dX10_instrument_5 (by decide) (fun _ => ?_) (fun h => absurd h (by decide))
  refine lv_iload_n hx hb dX10_instrument_12 rfl (lv_at hl 2 rfl) ?_
  refine lv_iconst (v := 0) hx hb dX10_instrument_13 (by decide) ?_
  refine lv_iconst (v := 5) hx hb dX10_instrument_14 (by decide) ?_
  refine g0_i (rS (rest := [.ref q1]) hx hb hml hown hE hP hD (c971_X10_in l g 3 (by decide) (by decide) H.size) (kS_X10_in hE (e1431 hE) rfl rfl ⟨(Nat.le_of_ble_eq_true rfl), (Nat.le_of_ble_eq_true rfl)⟩) [] rfl (by decide) rfl hl.1 rfl (lv_room (Nat.le_of_ble_eq_true rfl)) dX10_instrument_15 ⟨(Nat.le_of_ble_eq_true rfl), (Nat.le_of_ble_eq_true rfl)⟩) hP hD hS hA (fun u9 H locs hP hS => ?_)
  refine lv_if_ne (tgt := 25) hx hb dX10_instrument_18 (by decide) (fun _ => ?_) (fun h => absurd h (by decide))
  refine lv_iconst (v := 0) hx hb dX10_instrument_25 (by decide) ?_
  refine pf_RX10_86 (ws' := [(q39, .inl (g.2 0, 497, .inl f40)), (q1, .inr (12, [.ref q39, w3, w4, w5, w6, w7, .int 0, w9, w10, w11, w12, w13, w14, w15, w16, w17, w18, w19, w20, w21, w22, w23, w24, w25, w26, w27, w28, w29, w30, w31, w32, w33, w34, w35, w36, w37, w38]))]) hx hb hown hE hP hD hS 1 rfl rfl rfl (Nat.le_of_ble_eq_true rfl) dX10_instrument_26 rfl (fun H locs hP hD hS => ?_)
  refine lv_aload_n hx hb dX10_instrument_29 rfl (lv_at hl 0 rfl) ?_
  refine gf_RX10_86 hx hb hown hE hP 1 rfl rfl dX10_instrument_30 ?_
  refine lv_if_le (tgt := 38) hx hb dX10_instrument_33 (by decide) (fun _ => ?_) (fun h => absurd (by decide) h)
  refine lv_iconst (v := 0) hx hb dX10_instrument_38 (by decide) ?_
  refine lv_istore_n (lv' := [(3, .int 0), (0, .ref q1), (1, .int 1), (2, .int 3)]) hx hb dX10_instrument_39 rfl hl (by decide) rfl (fun ls hl => ?_)
  refine lv_iconst (v := 0) hx hb dX10_instrument_40 (by decide) ?_
  refine lv_istore (lv' := [(4, .int 0), (3, .int 0), (0, .ref q1), (1, .int 1), (2, .int 3)]) hx hb dX10_instrument_41 hl (by decide) rfl (fun ls hl => ?_)
  refine lv_iload hx hb dX10_instrument_43 (lv_at hl 0 rfl) ?_
  refine lv_aload_n hx hb dX10_instrument_45 rfl (lv_at hl 2 rfl) ?_
  refine gf_RX10_9 hx hb hown hE hP 1 rfl rfl dX10_instrument_46 ?_
  refine lv_sipush (v := 392) hx hb dX10_instrument_49 (by decide) ?_
  refine x_iald (v := 0) hx hb hE hP 0 rfl 392 (x_in (by decide)) (by decide) hf41 dX10_instrument_52 ?_
  refine lv_icmp_ge (tgt := 81) hx hb dX10_instrument_53 (by decide) (fun _ => ?_) (fun h => absurd (by decide) h)
  refine lv_iload_n hx hb dX10_instrument_81 rfl (lv_at hl 4 rfl) ?_
  refine lv_iconst (v := 5) hx hb dX10_instrument_82 (by decide) ?_
  refine lv_icmp_ne (tgt := 90) hx hb dX10_instrument_83 (by decide) (fun _ => ?_) (fun h => absurd h (by decide))
  refine lv_aload_n hx hb dX10_instrument_90 rfl (lv_at hl 2 rfl) ?_
  refine gf_RX10_9 hx hb hown hE hP 1 rfl rfl dX10_instrument_91 ?_
  refine lv_sipush (v := 474) hx hb dX10_instrument_94 (by decide) ?_
  refine lv_iconst (v := 5) hx hb dX10_instrument_97 (by decide) ?_
  refine lv_iload_n hx hb dX10_instrument_98 rfl (lv_at hl 3 rfl) ?_
  refine x_imul (v := 5) hx hb dX10_instrument_99 (by decide) ?_
  refine x_iadd (v := 479) hx hb dX10_instrument_100 (by decide) ?_
  refine lv_iload_n hx hb dX10_instrument_101 rfl (lv_at hl 4 rfl) ?_
  refine x_iadd (v := 482) hx hb dX10_instrument_102 (by decide) ?_
  refine x_iald (v := 0) hx hb hE hP 0 rfl 482 (x_in (by decide)) (by decide) hf42 dX10_instrument_103 ?_
  exact x_zret hx hb hr rfl rfl hlocks hP hD hS hAe hsz (Nat.le_of_ble_eq_true rfl) (Nat.le_of_ble_eq_true rfl) (fun _ => 0) [1] (by decide) rfl dX10_instrument_104

set_option maxHeartbeats 4000000 in
set_option maxRecDepth 100000 in
theorem c2189_X9_instrument (l : Launch) (g : gG) (q1 q13 q17 q20 q28 : Nat) (w3 w4 w5 w6 w7 w8 w9 w10 w11 w12 w16 w21 w22 w23 w25 w26 w27 : Value) (f18 : Nat → Option Nat) (f29 : Nat → Int32) (hf19 : f18 0 = some q20) (hf30 : f29 9 = 5) (sz : Nat) : Met l yX9_instrument [Cond.code yX9_instrument cX9_instrument 4 (some .int)] ({ frames := 2, cells := 0, slots := 0, locals := 42 } : Room) (va_Pc [.ref q1, .int 1, .int 4] (PX g sz [(q28, .inl (g.2 0, 20, .inl f29)), (q20, .inr (8, [w21, w22, w23, .ref q28, w25, w26, w27])), (q17, .inl (g.2 3, 10, .inr (.inr (.inr (.inr f18))))), (q13, .inr (10, [.ref q17, .int 0, w16])), (q1, .inr (11, [.ref q13, w3, w4, w5, w6, w7, w8, w9, w10, w11, w12]))])) (QI g [(q28, .inl (g.2 0, 20, .inl f29)), (q20, .inr (8, [w21, w22, w23, .ref q28, w25, w26, w27])), (q17, .inl (g.2 3, 10, .inr (.inr (.inr (.inr f18))))), (q13, .inr (10, [.ref q17, .int 0, w16])), (q1, .inr (11, [.ref q13, w3, w4, w5, w6, w7, w8, w9, w10, w11, w12]))] sz 5 (fun _ => [(q1, .inr (11, [.ref q13, w3, w4, w5, w6, w7, w8, w9, w10, w11, w12])), (q17, .inl (g.2 3, 10, .inr (.inr (.inr (.inr f18))))), (q13, .inr (10, [.ref q17, .int 0, w16])), (q28, .inl (g.2 0, 20, .inl f29)), (q20, .inr (8, [w21, w22, w23, .ref q28, w25, w26, w27]))])) 0 0 (va_A [(q28, .inl (g.2 0, 20, .inl f29)), (q20, .inr (8, [w21, w22, w23, .ref q28, w25, w26, w27])), (q17, .inl (g.2 3, 10, .inr (.inr (.inr (.inr f18))))), (q13, .inr (10, [.ref q17, .int 0, w16])), (q1, .inr (11, [.ref q13, w3, w4, w5, w6, w7, w8, w9, w10, w11, w12]))] sz) := by
  refine ofN (by decide) (Nat.le_of_ble_eq_true rfl) rfl ?_
  intro p e s m args below meth c A ls hAe hsz hx hb hml hr hlocks hin hown hE hP hD hA hS hl
  have hown : s.vm.findClass RX9 = some m.cls := hown
  refine lv_iload_n hx hb dX9_instrument_0 rfl (lv_at hl 1 rfl) ?_
  refine g0_v (rS (rest := []) hx hb hml hown hE hP hD (c1854_X9_requireInstrument l g 1 (by decide) (by decide) s.heap.size) (kS_X9_requireInstrument hE (e991 hE) rfl rfl ⟨(Nat.le_of_ble_eq_true rfl), (Nat.le_of_ble_eq_true rfl)⟩) [] rfl (by decide) rfl hl.1 rfl (lv_room (Nat.le_of_ble_eq_true rfl)) dX9_instrument_1 ⟨(Nat.le_of_ble_eq_true rfl), (Nat.le_of_ble_eq_true rfl)⟩) hP hD hS hA (fun u9 H locs hP hS => ?_)
  refine lv_iload_n hx hb dX9_instrument_4 rfl (lv_at hl 2 rfl) ?_
  refine lv_iconst (v := 0) hx hb dX9_instrument_5 (by decide) ?_
  refine lv_iconst (v := 5) hx hb dX9_instrument_6 (by decide) ?_
  refine g0_v (rS (rest := []) hx hb hml hown hE hP hD (c968_X9_requireRange l g 4 (by decide) (by decide) H.size) (kS_X9_requireRange hE (e636 hE) rfl rfl ⟨(Nat.le_of_ble_eq_true rfl), (Nat.le_of_ble_eq_true rfl)⟩) [] rfl (by decide) rfl hl.1 rfl (lv_room (Nat.le_of_ble_eq_true rfl)) dX9_instrument_7 ⟨(Nat.le_of_ble_eq_true rfl), (Nat.le_of_ble_eq_true rfl)⟩) hP hD hS hA (fun u9 H locs hP hS => ?_)
  refine lv_aload_n hx hb dX9_instrument_10 rfl (lv_at hl 0 rfl) ?_
  refine gf_RX9_12 hx hb hown hE hP 4 rfl rfl dX9_instrument_11 ?_
  refine g_r (wr := [(q28, .inl (g.2 0, 20, .inl f29)), (q20, .inr (8, [w21, w22, w23, .ref q28, w25, w26, w27])), (q1, .inr (11, [.ref q13, w3, w4, w5, w6, w7, w8, w9, w10, w11, w12]))]) (rV (rest := []) hx hb hml hown hE hP hD 3 rfl rfl (c71_X8_current l g q13 q17 q20 w16 f18 (hf19) H.size) (kV_X8_current hE (e290 hE) rfl rfl ⟨(Nat.le_of_ble_eq_true rfl), (Nat.le_of_ble_eq_true rfl)⟩) [2, 3] rfl (by decide) rfl hl.1 rfl (lv_room (Nat.le_of_ble_eq_true rfl)) dX9_instrument_14 ⟨(Nat.le_of_ble_eq_true rfl), (Nat.le_of_ble_eq_true rfl)⟩) hP hD hS hA [2, 3] [0, 1, 4] rfl rfl (by decide) (by decide) (fun u3 H locs hP hD hS => ?_)
  have hP : va_P g.1 vwCl [(q28, .inl (g.2 0, 20, .inl f29)), (q20, .inr (8, [w21, w22, w23, .ref q28, w25, w26, w27])), (q1, .inr (11, [.ref q13, w3, w4, w5, w6, w7, w8, w9, w10, w11, w12])), (q17, .inl (g.2 3, 10, .inr (.inr (.inr (.inr f18))))), (q13, .inr (10, [.ref q17, .int 0, w16]))] H := hP
  have hD : va_D A [(q28, .inl (g.2 0, 20, .inl f29)), (q20, .inr (8, [w21, w22, w23, .ref q28, w25, w26, w27])), (q1, .inr (11, [.ref q13, w3, w4, w5, w6, w7, w8, w9, w10, w11, w12])), (q17, .inl (g.2 3, 10, .inr (.inr (.inr (.inr f18))))), (q13, .inr (10, [.ref q17, .int 0, w16]))] := hD
  refine lv_astore_n (lv' := [(3, .ref q20), (0, .ref q1), (1, .int 1), (2, .int 4)]) hx hb dX9_instrument_17 rfl hl (by decide) rfl (fun ls hl => ?_)
  refine lv_iload_n hx hb dX9_instrument_18 rfl (lv_at hl 3 rfl) ?_
  refine lv_iconst (v := 5) hx hb dX9_instrument_19 (by decide) ?_
  refine lv_icmp_ne (tgt := 29) hx hb dX9_instrument_20 (by decide) (fun _ => ?_) (fun h => absurd h (by decide))
  refine lv_aload_n hx hb dX9_instrument_29 rfl (lv_at hl 0 rfl) ?_
  refine lv_iload_n hx hb dX9_instrument_30 rfl (lv_at hl 2 rfl) ?_
  refine lv_iload_n hx hb dX9_instrument_31 rfl (lv_at hl 3 rfl) ?_
  refine g_i (wr := [(q1, .inr (11, [.ref q13, w3, w4, w5, w6, w7, w8, w9, w10, w11, w12])), (q17, .inl (g.2 3, 10, .inr (.inr (.inr (.inr f18))))), (q13, .inr (10, [.ref q17, .int 0, w16]))]) (rV (rest := []) hx hb hml hown hE hP hD 1 rfl rfl (c2122_X6_instrumentNumber l g q20 q28 w21 w22 w23 w25 w26 w27 f29 (hf30) H.size) (kV_X6_instrumentNumber hE (e1010 hE) rfl rfl ⟨(Nat.le_of_ble_eq_true rfl), (Nat.le_of_ble_eq_true rfl)⟩) [0, 1] rfl (by decide) rfl hl.1 rfl (lv_room (Nat.le_of_ble_eq_true rfl)) dX9_instrument_32 ⟨(Nat.le_of_ble_eq_true rfl), (Nat.le_of_ble_eq_true rfl)⟩) hP hD hS hA [0, 1] [2, 3, 4] rfl rfl (by decide) (by decide) (fun u4 H locs hP hD hS => ?_)
  have hP : va_P g.1 vwCl [(q1, .inr (11, [.ref q13, w3, w4, w5, w6, w7, w8, w9, w10, w11, w12])), (q17, .inl (g.2 3, 10, .inr (.inr (.inr (.inr f18))))), (q13, .inr (10, [.ref q17, .int 0, w16])), (q28, .inl (g.2 0, 20, .inl f29)), (q20, .inr (8, [w21, w22, w23, .ref q28, w25, w26, w27]))] H := hP
  have hD : va_D A [(q1, .inr (11, [.ref q13, w3, w4, w5, w6, w7, w8, w9, w10, w11, w12])), (q17, .inl (g.2 3, 10, .inr (.inr (.inr (.inr f18))))), (q13, .inr (10, [.ref q17, .int 0, w16])), (q28, .inl (g.2 0, 20, .inl f29)), (q20, .inr (8, [w21, w22, w23, .ref q28, w25, w26, w27]))] := hD
  exact x_zret hx hb hr rfl rfl hlocks hP hD hS hAe hsz (Nat.le_of_ble_eq_true rfl) (Nat.le_of_ble_eq_true rfl) (fun _ => 0) [0, 1, 2, 3, 4] (by decide) rfl dX9_instrument_35

set_option maxHeartbeats 4000000 in
set_option maxRecDepth 100000 in
theorem c2190_L_instrument (l : Launch) (g : gG) (hlx : l.stackTraces = false) (q1 q2 q14 q18 q21 q29 : Nat) (w4 w5 w6 w7 w8 w9 w10 w11 w12 w13 w17 w22 w23 w24 w26 w27 w28 : Value) (f19 : Nat → Option Nat) (f30 : Nat → Int32) (f32 : Nat → Int64) (hf20 : f19 0 = some q21) (hf31 : f30 9 = 5) (sz : Nat) : Met l yL_instrument [Cond.codeWith yL_instrument cL_instrument 5 (some .int) [(0, 10, 13, 13), (0, 10, 17, 15)]] ({ frames := 3, cells := 0, slots := 0, locals := 65 } : Room) (va_Pc [.ref q1, .int 1, .int 4, .ref q2] (PZ g sz [(q2, .inl (g.2 1, 1, .inr (.inl f32))), (q29, .inl (g.2 0, 20, .inl f30)), (q21, .inr (8, [w22, w23, w24, .ref q29, w26, w27, w28])), (q18, .inl (g.2 3, 10, .inr (.inr (.inr (.inr f19))))), (q14, .inr (10, [.ref q18, .int 0, w17])), (q1, .inr (11, [.ref q14, w4, w5, w6, w7, w8, w9, w10, w11, w12, w13]))])) (QI g [(q2, .inl (g.2 1, 1, .inr (.inl f32))), (q29, .inl (g.2 0, 20, .inl f30)), (q21, .inr (8, [w22, w23, w24, .ref q29, w26, w27, w28])), (q18, .inl (g.2 3, 10, .inr (.inr (.inr (.inr f19))))), (q14, .inr (10, [.ref q18, .int 0, w17])), (q1, .inr (11, [.ref q14, w4, w5, w6, w7, w8, w9, w10, w11, w12, w13]))] sz 0 (fun _ => [(q2, .inl (g.2 1, 1, .inr (.inl (vp_updL f32 0 5))))])) 0 0 (va_A [(q2, .inl (g.2 1, 1, .inr (.inl f32))), (q29, .inl (g.2 0, 20, .inl f30)), (q21, .inr (8, [w22, w23, w24, .ref q29, w26, w27, w28])), (q18, .inl (g.2 3, 10, .inr (.inr (.inr (.inr f19))))), (q14, .inr (10, [.ref q18, .int 0, w17])), (q1, .inr (11, [.ref q14, w4, w5, w6, w7, w8, w9, w10, w11, w12, w13]))] sz) := by
  refine ofH (by decide) (Nat.le_of_ble_eq_true rfl) rfl ?_
  intro p e s m args below meth c A ls hAe hsz hx hb hml hr hlocks hin hown hE hP hD hA hS hl htb hz
  have hown : s.vm.findClass RL = some m.cls := hown
  refine lv_aload_n hx hb dL_instrument_0 rfl (lv_at hl 3 rfl) ?_
  refine lv_iconst (v := 0) hx hb dL_instrument_1 (by decide) ?_
  refine lv_aload_n hx hb dL_instrument_2 rfl (lv_at hl 0 rfl) ?_
  refine lv_iload_n hx hb dL_instrument_3 rfl (lv_at hl 1 rfl) ?_
  refine lv_iload_n hx hb dL_instrument_4 rfl (lv_at hl 2 rfl) ?_
  refine g_i (wr := [(q2, .inl (g.2 1, 1, .inr (.inl f32)))]) (rV (rest := [.int 0, .ref q2]) hx hb hml hown hE hP hD 5 rfl rfl (c2189_X9_instrument l g q1 q14 q18 q21 q29 w4 w5 w6 w7 w8 w9 w10 w11 w12 w13 w17 w22 w23 w24 w26 w27 w28 f19 f30 (hf20) (hf31) s.heap.size) (kV_X9_instrument hE (e1015 hE) rfl rfl ⟨(Nat.le_of_ble_eq_true rfl), (Nat.le_of_ble_eq_true rfl)⟩) [1, 2, 3, 4, 5] rfl (by decide) rfl hl.1 rfl (lv_room (Nat.le_of_ble_eq_true rfl)) dL_instrument_5 ⟨(Nat.le_of_ble_eq_true rfl), (Nat.le_of_ble_eq_true rfl)⟩) hP hD hS hA [1, 2, 3, 4, 5] [0] rfl rfl (by decide) (by decide) (fun u1 H locs hP hD hS => ?_)
  have hP : va_P g.1 vwCl [(q2, .inl (g.2 1, 1, .inr (.inl f32))), (q1, .inr (11, [.ref q14, w4, w5, w6, w7, w8, w9, w10, w11, w12, w13])), (q18, .inl (g.2 3, 10, .inr (.inr (.inr (.inr f19))))), (q14, .inr (10, [.ref q18, .int 0, w17])), (q29, .inl (g.2 0, 20, .inl f30)), (q21, .inr (8, [w22, w23, w24, .ref q29, w26, w27, w28]))] H := hP
  have hD : va_D A [(q2, .inl (g.2 1, 1, .inr (.inl f32))), (q1, .inr (11, [.ref q14, w4, w5, w6, w7, w8, w9, w10, w11, w12, w13])), (q18, .inl (g.2 3, 10, .inr (.inr (.inr (.inr f19))))), (q14, .inr (10, [.ref q18, .int 0, w17])), (q29, .inl (g.2 0, 20, .inl f30)), (q21, .inr (8, [w22, w23, w24, .ref q29, w26, w27, w28]))] := hD
  refine lv_i2l (v := 5) hx hb dL_instrument_8 (by decide) ?_
  refine x_last (ws' := [(q2, .inl (g.2 1, 1, .inr (.inl (vp_updL f32 0 5)))), (q1, .inr (11, [.ref q14, w4, w5, w6, w7, w8, w9, w10, w11, w12, w13])), (q18, .inl (g.2 3, 10, .inr (.inr (.inr (.inr f19))))), (q14, .inr (10, [.ref q18, .int 0, w17])), (q29, .inl (g.2 0, 20, .inl f30)), (q21, .inr (8, [w22, w23, w24, .ref q29, w26, w27, w28]))]) hx hb hE hP hD hS 0 rfl 0 (x_in (by decide)) (by decide) dL_instrument_9 rfl (fun H locs hP hD hS => ?_)
  refine lv_goto (tgt := 21) hx hb dL_instrument_10 (by decide) ?_
  refine lv_iconst (v := 0) hx hb dL_instrument_21 (by decide) ?_
  exact x_zret hx hb hr rfl rfl hlocks hP hD hS hAe hsz (Nat.le_of_ble_eq_true rfl) (Nat.le_of_ble_eq_true rfl) (fun _ => 0) [0] (by decide) rfl dL_instrument_22

set_option maxHeartbeats 4000000 in
set_option maxRecDepth 100000 in
theorem c2191_X10_instrument (l : Launch) (g : gG) (q1 q39 : Nat) (w3 w4 w5 w6 w7 w8 w9 w10 w11 w12 w13 w14 w15 w16 w17 w18 w19 w20 w21 w22 w23 w24 w25 w26 w27 w28 w29 w30 w31 w32 w33 w34 w35 w36 w37 w38 : Value) (f40 : Nat → Int32) (hf41 : f40 392 = 0) (hf42 : f40 483 = 5) (sz : Nat) : Met l yX10_instrument [Cond.code yX10_instrument cX10_instrument 5 (some .int)] ({ frames := 2, cells := 0, slots := 0, locals := 42 } : Room) (va_Pc [.ref q1, .int 1, .int 4] (PX g sz [(q39, .inl (g.2 0, 497, .inl f40)), (q1, .inr (12, [.ref q39, w3, w4, w5, w6, w7, w8, w9, w10, w11, w12, w13, w14, w15, w16, w17, w18, w19, w20, w21, w22, w23, w24, w25, w26, w27, w28, w29, w30, w31, w32, w33, w34, w35, w36, w37, w38]))])) (QI g [(q39, .inl (g.2 0, 497, .inl f40)), (q1, .inr (12, [.ref q39, w3, w4, w5, w6, w7, w8, w9, w10, w11, w12, w13, w14, w15, w16, w17, w18, w19, w20, w21, w22, w23, w24, w25, w26, w27, w28, w29, w30, w31, w32, w33, w34, w35, w36, w37, w38]))] sz 5 (fun _ => [(q1, .inr (12, [.ref q39, w3, w4, w5, w6, w7, .int 0, w9, w10, w11, w12, w13, w14, w15, w16, w17, w18, w19, w20, w21, w22, w23, w24, w25, w26, w27, w28, w29, w30, w31, w32, w33, w34, w35, w36, w37, w38]))])) 0 0 (va_A [(q39, .inl (g.2 0, 497, .inl f40)), (q1, .inr (12, [.ref q39, w3, w4, w5, w6, w7, w8, w9, w10, w11, w12, w13, w14, w15, w16, w17, w18, w19, w20, w21, w22, w23, w24, w25, w26, w27, w28, w29, w30, w31, w32, w33, w34, w35, w36, w37, w38]))] sz) := by
  refine ofN (by decide) (Nat.le_of_ble_eq_true rfl) rfl ?_
  intro p e s m args below meth c A ls hAe hsz hx hb hml hr hlocks hin hown hE hP hD hA hS hl
  have hown : s.vm.findClass RX10 = some m.cls := hown
  refine lv_aload_n hx hb dX10_instrument_0 rfl (lv_at hl 0 rfl) ?_
  refine lv_iload_n hx hb dX10_instrument_1 rfl (lv_at hl 1 rfl) ?_
  refine g0_i (rS (rest := [.ref q1]) hx hb hml hown hE hP hD (c1857_X10_isInstrument l g 1 (by decide) (by decide) s.heap.size) (kS_X10_isInstrument hE (e1645 hE) rfl rfl ⟨(Nat.le_of_ble_eq_true rfl), (Nat.le_of_ble_eq_true rfl)⟩) [] rfl (by decide) rfl hl.1 rfl (lv_room (Nat.le_of_ble_eq_true rfl)) dX10_instrument_2 ⟨(Nat.le_of_ble_eq_true rfl), (Nat.le_of_ble_eq_true rfl)⟩) hP hD hS hA (fun u9 H locs hP hS => ?_)
  refine lv_if_ne (tgt := 12) hx hb dX10_instrument_5 (by decide) (fun _ => ?_) (fun h => absurd h (by decide))
  refine lv_iload_n hx hb dX10_instrument_12 rfl (lv_at hl 2 rfl) ?_
  refine lv_iconst (v := 0) hx hb dX10_instrument_13 (by decide) ?_
  refine lv_iconst (v := 5) hx hb dX10_instrument_14 (by decide) ?_
  refine g0_i (rS (rest := [.ref q1]) hx hb hml hown hE hP hD (c971_X10_in l g 4 (by decide) (by decide) H.size) (kS_X10_in hE (e1431 hE) rfl rfl ⟨(Nat.le_of_ble_eq_true rfl), (Nat.le_of_ble_eq_true rfl)⟩) [] rfl (by decide) rfl hl.1 rfl (lv_room (Nat.le_of_ble_eq_true rfl)) dX10_instrument_15 ⟨(Nat.le_of_ble_eq_true rfl), (Nat.le_of_ble_eq_true rfl)⟩) hP hD hS hA (fun u9 H locs hP hS => ?_)
  refine lv_if_ne (tgt := 25) hx hb dX10_instrument_18 (by decide) (fun _ => ?_) (fun h => absurd h (by decide))
  refine lv_iconst (v := 0) hx hb dX10_instrument_25 (by decide) ?_
  refine pf_RX10_86 (ws' := [(q39, .inl (g.2 0, 497, .inl f40)), (q1, .inr (12, [.ref q39, w3, w4, w5, w6, w7, .int 0, w9, w10, w11, w12, w13, w14, w15, w16, w17, w18, w19, w20, w21, w22, w23, w24, w25, w26, w27, w28, w29, w30, w31, w32, w33, w34, w35, w36, w37, w38]))]) hx hb hown hE hP hD hS 1 rfl rfl rfl (Nat.le_of_ble_eq_true rfl) dX10_instrument_26 rfl (fun H locs hP hD hS => ?_)
  refine lv_aload_n hx hb dX10_instrument_29 rfl (lv_at hl 0 rfl) ?_
  refine gf_RX10_86 hx hb hown hE hP 1 rfl rfl dX10_instrument_30 ?_
  refine lv_if_le (tgt := 38) hx hb dX10_instrument_33 (by decide) (fun _ => ?_) (fun h => absurd (by decide) h)
  refine lv_iconst (v := 0) hx hb dX10_instrument_38 (by decide) ?_
  refine lv_istore_n (lv' := [(3, .int 0), (0, .ref q1), (1, .int 1), (2, .int 4)]) hx hb dX10_instrument_39 rfl hl (by decide) rfl (fun ls hl => ?_)
  refine lv_iconst (v := 0) hx hb dX10_instrument_40 (by decide) ?_
  refine lv_istore (lv' := [(4, .int 0), (3, .int 0), (0, .ref q1), (1, .int 1), (2, .int 4)]) hx hb dX10_instrument_41 hl (by decide) rfl (fun ls hl => ?_)
  refine lv_iload hx hb dX10_instrument_43 (lv_at hl 0 rfl) ?_
  refine lv_aload_n hx hb dX10_instrument_45 rfl (lv_at hl 2 rfl) ?_
  refine gf_RX10_9 hx hb hown hE hP 1 rfl rfl dX10_instrument_46 ?_
  refine lv_sipush (v := 392) hx hb dX10_instrument_49 (by decide) ?_
  refine x_iald (v := 0) hx hb hE hP 0 rfl 392 (x_in (by decide)) (by decide) hf41 dX10_instrument_52 ?_
  refine lv_icmp_ge (tgt := 81) hx hb dX10_instrument_53 (by decide) (fun _ => ?_) (fun h => absurd (by decide) h)
  refine lv_iload_n hx hb dX10_instrument_81 rfl (lv_at hl 4 rfl) ?_
  refine lv_iconst (v := 5) hx hb dX10_instrument_82 (by decide) ?_
  refine lv_icmp_ne (tgt := 90) hx hb dX10_instrument_83 (by decide) (fun _ => ?_) (fun h => absurd h (by decide))
  refine lv_aload_n hx hb dX10_instrument_90 rfl (lv_at hl 2 rfl) ?_
  refine gf_RX10_9 hx hb hown hE hP 1 rfl rfl dX10_instrument_91 ?_
  refine lv_sipush (v := 474) hx hb dX10_instrument_94 (by decide) ?_
  refine lv_iconst (v := 5) hx hb dX10_instrument_97 (by decide) ?_
  refine lv_iload_n hx hb dX10_instrument_98 rfl (lv_at hl 3 rfl) ?_
  refine x_imul (v := 5) hx hb dX10_instrument_99 (by decide) ?_
  refine x_iadd (v := 479) hx hb dX10_instrument_100 (by decide) ?_
  refine lv_iload_n hx hb dX10_instrument_101 rfl (lv_at hl 4 rfl) ?_
  refine x_iadd (v := 483) hx hb dX10_instrument_102 (by decide) ?_
  refine x_iald (v := 5) hx hb hE hP 0 rfl 483 (x_in (by decide)) (by decide) hf42 dX10_instrument_103 ?_
  exact x_zret hx hb hr rfl rfl hlocks hP hD hS hAe hsz (Nat.le_of_ble_eq_true rfl) (Nat.le_of_ble_eq_true rfl) (fun _ => 0) [1] (by decide) rfl dX10_instrument_104

set_option maxHeartbeats 4000000 in
set_option maxRecDepth 100000 in
theorem c2192_X6_countClipsWith (l : Launch) (g : gG) (q1 : Nat) (w2 w3 w4 w5 w7 w8 : Value) (sz : Nat) : Met l yX6_countClipsWith [Cond.code yX6_countClipsWith cX6_countClipsWith 4 (some .int)] ({ frames := 0, cells := 0, slots := 0, locals := 0 } : Room) (va_Pc [.ref q1, .int 1] (PX g sz [(q1, .inr (8, [w2, w3, w4, w5, .int 0, w7, w8]))])) (QI g [(q1, .inr (8, [w2, w3, w4, w5, .int 0, w7, w8]))] sz 0 (fun _ => [(q1, .inr (8, [w2, w3, w4, w5, .int 0, w7, w8]))])) 0 0 (va_A [(q1, .inr (8, [w2, w3, w4, w5, .int 0, w7, w8]))] sz) := by
  refine ofN (by decide) (Nat.le_of_ble_eq_true rfl) rfl ?_
  intro p e s m args below meth c A ls hAe hsz hx hb hml hr hlocks hin hown hE hP hD hA hS hl
  have hown : s.vm.findClass RX6 = some m.cls := hown
  refine lv_iconst (v := 0) hx hb dX6_countClipsWith_0 (by decide) ?_
  refine lv_istore_n (lv' := [(2, .int 0), (0, .ref q1), (1, .int 1)]) hx hb dX6_countClipsWith_1 rfl hl (by decide) rfl (fun ls hl => ?_)
  refine lv_iconst (v := 0) hx hb dX6_countClipsWith_2 (by decide) ?_
  refine lv_istore_n (lv' := [(3, .int 0), (2, .int 0), (0, .ref q1), (1, .int 1)]) hx hb dX6_countClipsWith_3 rfl hl (by decide) rfl (fun ls hl => ?_)
  refine lv_iload_n hx hb dX6_countClipsWith_4 rfl (lv_at hl 0 rfl) ?_
  refine lv_aload_n hx hb dX6_countClipsWith_5 rfl (lv_at hl 2 rfl) ?_
  refine gf_RX6_37 hx hb hown hE hP 0 rfl rfl dX6_countClipsWith_6 ?_
  refine lv_icmp_ge (tgt := 31) hx hb dX6_countClipsWith_9 (by decide) (fun _ => ?_) (fun h => absurd (by decide) h)
  refine lv_iload_n hx hb dX6_countClipsWith_31 rfl (lv_at hl 1 rfl) ?_
  exact x_zret hx hb hr rfl rfl hlocks hP hD hS hAe hsz (Nat.le_of_ble_eq_true rfl) (Nat.le_of_ble_eq_true rfl) (fun _ => 0) [0] (by decide) rfl dX6_countClipsWith_32

set_option maxHeartbeats 4000000 in
set_option maxRecDepth 100000 in
theorem c2193_X9_instrument (l : Launch) (g : gG) (q1 q13 q17 q20 : Nat) (w3 w4 w5 w6 w7 w8 w9 w10 w11 w12 w16 w21 w22 w23 w24 w26 w27 : Value) (f18 : Nat → Option Nat) (hf19 : f18 0 = some q20) (sz : Nat) : Met l yX9_instrument [Cond.code yX9_instrument cX9_instrument 4 (some .int)] ({ frames := 2, cells := 0, slots := 0, locals := 42 } : Room) (va_Pc [.ref q1, .int 1, .int 5] (PX g sz [(q20, .inr (8, [w21, w22, w23, w24, .int 0, w26, w27])), (q17, .inl (g.2 3, 10, .inr (.inr (.inr (.inr f18))))), (q13, .inr (10, [.ref q17, .int 0, w16])), (q1, .inr (11, [.ref q13, w3, w4, w5, w6, w7, w8, w9, w10, w11, w12]))])) (QI g [(q20, .inr (8, [w21, w22, w23, w24, .int 0, w26, w27])), (q17, .inl (g.2 3, 10, .inr (.inr (.inr (.inr f18))))), (q13, .inr (10, [.ref q17, .int 0, w16])), (q1, .inr (11, [.ref q13, w3, w4, w5, w6, w7, w8, w9, w10, w11, w12]))] sz 0 (fun _ => [(q1, .inr (11, [.ref q13, w3, w4, w5, w6, w7, w8, w9, w10, w11, w12])), (q17, .inl (g.2 3, 10, .inr (.inr (.inr (.inr f18))))), (q13, .inr (10, [.ref q17, .int 0, w16])), (q20, .inr (8, [w21, w22, w23, w24, .int 0, w26, w27]))])) 0 0 (va_A [(q20, .inr (8, [w21, w22, w23, w24, .int 0, w26, w27])), (q17, .inl (g.2 3, 10, .inr (.inr (.inr (.inr f18))))), (q13, .inr (10, [.ref q17, .int 0, w16])), (q1, .inr (11, [.ref q13, w3, w4, w5, w6, w7, w8, w9, w10, w11, w12]))] sz) := by
  refine ofN (by decide) (Nat.le_of_ble_eq_true rfl) rfl ?_
  intro p e s m args below meth c A ls hAe hsz hx hb hml hr hlocks hin hown hE hP hD hA hS hl
  have hown : s.vm.findClass RX9 = some m.cls := hown
  refine lv_iload_n hx hb dX9_instrument_0 rfl (lv_at hl 1 rfl) ?_
  refine g0_v (rS (rest := []) hx hb hml hown hE hP hD (c1854_X9_requireInstrument l g 1 (by decide) (by decide) s.heap.size) (kS_X9_requireInstrument hE (e991 hE) rfl rfl ⟨(Nat.le_of_ble_eq_true rfl), (Nat.le_of_ble_eq_true rfl)⟩) [] rfl (by decide) rfl hl.1 rfl (lv_room (Nat.le_of_ble_eq_true rfl)) dX9_instrument_1 ⟨(Nat.le_of_ble_eq_true rfl), (Nat.le_of_ble_eq_true rfl)⟩) hP hD hS hA (fun u9 H locs hP hS => ?_)
  refine lv_iload_n hx hb dX9_instrument_4 rfl (lv_at hl 2 rfl) ?_
  refine lv_iconst (v := 0) hx hb dX9_instrument_5 (by decide) ?_
  refine lv_iconst (v := 5) hx hb dX9_instrument_6 (by decide) ?_
  refine g0_v (rS (rest := []) hx hb hml hown hE hP hD (c968_X9_requireRange l g 5 (by decide) (by decide) H.size) (kS_X9_requireRange hE (e636 hE) rfl rfl ⟨(Nat.le_of_ble_eq_true rfl), (Nat.le_of_ble_eq_true rfl)⟩) [] rfl (by decide) rfl hl.1 rfl (lv_room (Nat.le_of_ble_eq_true rfl)) dX9_instrument_7 ⟨(Nat.le_of_ble_eq_true rfl), (Nat.le_of_ble_eq_true rfl)⟩) hP hD hS hA (fun u9 H locs hP hS => ?_)
  refine lv_aload_n hx hb dX9_instrument_10 rfl (lv_at hl 0 rfl) ?_
  refine gf_RX9_12 hx hb hown hE hP 3 rfl rfl dX9_instrument_11 ?_
  refine g_r (wr := [(q20, .inr (8, [w21, w22, w23, w24, .int 0, w26, w27])), (q1, .inr (11, [.ref q13, w3, w4, w5, w6, w7, w8, w9, w10, w11, w12]))]) (rV (rest := []) hx hb hml hown hE hP hD 2 rfl rfl (c71_X8_current l g q13 q17 q20 w16 f18 (hf19) H.size) (kV_X8_current hE (e290 hE) rfl rfl ⟨(Nat.le_of_ble_eq_true rfl), (Nat.le_of_ble_eq_true rfl)⟩) [1, 2] rfl (by decide) rfl hl.1 rfl (lv_room (Nat.le_of_ble_eq_true rfl)) dX9_instrument_14 ⟨(Nat.le_of_ble_eq_true rfl), (Nat.le_of_ble_eq_true rfl)⟩) hP hD hS hA [1, 2] [0, 3] rfl rfl (by decide) (by decide) (fun u3 H locs hP hD hS => ?_)
  have hP : va_P g.1 vwCl [(q20, .inr (8, [w21, w22, w23, w24, .int 0, w26, w27])), (q1, .inr (11, [.ref q13, w3, w4, w5, w6, w7, w8, w9, w10, w11, w12])), (q17, .inl (g.2 3, 10, .inr (.inr (.inr (.inr f18))))), (q13, .inr (10, [.ref q17, .int 0, w16]))] H := hP
  have hD : va_D A [(q20, .inr (8, [w21, w22, w23, w24, .int 0, w26, w27])), (q1, .inr (11, [.ref q13, w3, w4, w5, w6, w7, w8, w9, w10, w11, w12])), (q17, .inl (g.2 3, 10, .inr (.inr (.inr (.inr f18))))), (q13, .inr (10, [.ref q17, .int 0, w16]))] := hD
  refine lv_astore_n (lv' := [(3, .ref q20), (0, .ref q1), (1, .int 1), (2, .int 5)]) hx hb dX9_instrument_17 rfl hl (by decide) rfl (fun ls hl => ?_)
  refine lv_iload_n hx hb dX9_instrument_18 rfl (lv_at hl 3 rfl) ?_
  refine lv_iconst (v := 5) hx hb dX9_instrument_19 (by decide) ?_
  refine lv_icmp_ne (tgt := 29) hx hb dX9_instrument_20 (by decide) (fun h => absurd h (by decide)) (fun _ => ?_)
  refine lv_aload_n hx hb dX9_instrument_23 rfl (lv_at hl 0 rfl) ?_
  refine lv_iload_n hx hb dX9_instrument_24 rfl (lv_at hl 2 rfl) ?_
  refine g_i (wr := [(q1, .inr (11, [.ref q13, w3, w4, w5, w6, w7, w8, w9, w10, w11, w12])), (q17, .inl (g.2 3, 10, .inr (.inr (.inr (.inr f18))))), (q13, .inr (10, [.ref q17, .int 0, w16]))]) (rV (rest := []) hx hb hml hown hE hP hD 0 rfl rfl (c2192_X6_countClipsWith l g q20 w21 w22 w23 w24 w26 w27 H.size) (kV_X6_countClipsWith hE (e1019 hE) rfl rfl ⟨(Nat.le_of_ble_eq_true rfl), (Nat.le_of_ble_eq_true rfl)⟩) [0] rfl (by decide) rfl hl.1 rfl (lv_room (Nat.le_of_ble_eq_true rfl)) dX9_instrument_25 ⟨(Nat.le_of_ble_eq_true rfl), (Nat.le_of_ble_eq_true rfl)⟩) hP hD hS hA [0] [1, 2, 3] rfl rfl (by decide) (by decide) (fun u4 H locs hP hD hS => ?_)
  have hP : va_P g.1 vwCl [(q1, .inr (11, [.ref q13, w3, w4, w5, w6, w7, w8, w9, w10, w11, w12])), (q17, .inl (g.2 3, 10, .inr (.inr (.inr (.inr f18))))), (q13, .inr (10, [.ref q17, .int 0, w16])), (q20, .inr (8, [w21, w22, w23, w24, .int 0, w26, w27]))] H := hP
  have hD : va_D A [(q1, .inr (11, [.ref q13, w3, w4, w5, w6, w7, w8, w9, w10, w11, w12])), (q17, .inl (g.2 3, 10, .inr (.inr (.inr (.inr f18))))), (q13, .inr (10, [.ref q17, .int 0, w16])), (q20, .inr (8, [w21, w22, w23, w24, .int 0, w26, w27]))] := hD
  exact x_zret hx hb hr rfl rfl hlocks hP hD hS hAe hsz (Nat.le_of_ble_eq_true rfl) (Nat.le_of_ble_eq_true rfl) (fun _ => 0) [0, 1, 2, 3] (by decide) rfl dX9_instrument_28

set_option maxHeartbeats 4000000 in
set_option maxRecDepth 100000 in
theorem c2194_L_instrument (l : Launch) (g : gG) (hlx : l.stackTraces = false) (q1 q2 q14 q18 q21 : Nat) (w4 w5 w6 w7 w8 w9 w10 w11 w12 w13 w17 w22 w23 w24 w25 w27 w28 : Value) (f19 : Nat → Option Nat) (f29 : Nat → Int64) (hf20 : f19 0 = some q21) (sz : Nat) : Met l yL_instrument [Cond.codeWith yL_instrument cL_instrument 5 (some .int) [(0, 10, 13, 13), (0, 10, 17, 15)]] ({ frames := 3, cells := 0, slots := 0, locals := 65 } : Room) (va_Pc [.ref q1, .int 1, .int 5, .ref q2] (PZ g sz [(q2, .inl (g.2 1, 1, .inr (.inl f29))), (q21, .inr (8, [w22, w23, w24, w25, .int 0, w27, w28])), (q18, .inl (g.2 3, 10, .inr (.inr (.inr (.inr f19))))), (q14, .inr (10, [.ref q18, .int 0, w17])), (q1, .inr (11, [.ref q14, w4, w5, w6, w7, w8, w9, w10, w11, w12, w13]))])) (QI g [(q2, .inl (g.2 1, 1, .inr (.inl f29))), (q21, .inr (8, [w22, w23, w24, w25, .int 0, w27, w28])), (q18, .inl (g.2 3, 10, .inr (.inr (.inr (.inr f19))))), (q14, .inr (10, [.ref q18, .int 0, w17])), (q1, .inr (11, [.ref q14, w4, w5, w6, w7, w8, w9, w10, w11, w12, w13]))] sz 0 (fun _ => [(q2, .inl (g.2 1, 1, .inr (.inl (vp_updL f29 0 0))))])) 0 0 (va_A [(q2, .inl (g.2 1, 1, .inr (.inl f29))), (q21, .inr (8, [w22, w23, w24, w25, .int 0, w27, w28])), (q18, .inl (g.2 3, 10, .inr (.inr (.inr (.inr f19))))), (q14, .inr (10, [.ref q18, .int 0, w17])), (q1, .inr (11, [.ref q14, w4, w5, w6, w7, w8, w9, w10, w11, w12, w13]))] sz) := by
  refine ofH (by decide) (Nat.le_of_ble_eq_true rfl) rfl ?_
  intro p e s m args below meth c A ls hAe hsz hx hb hml hr hlocks hin hown hE hP hD hA hS hl htb hz
  have hown : s.vm.findClass RL = some m.cls := hown
  refine lv_aload_n hx hb dL_instrument_0 rfl (lv_at hl 3 rfl) ?_
  refine lv_iconst (v := 0) hx hb dL_instrument_1 (by decide) ?_
  refine lv_aload_n hx hb dL_instrument_2 rfl (lv_at hl 0 rfl) ?_
  refine lv_iload_n hx hb dL_instrument_3 rfl (lv_at hl 1 rfl) ?_
  refine lv_iload_n hx hb dL_instrument_4 rfl (lv_at hl 2 rfl) ?_
  refine g_i (wr := [(q2, .inl (g.2 1, 1, .inr (.inl f29)))]) (rV (rest := [.int 0, .ref q2]) hx hb hml hown hE hP hD 4 rfl rfl (c2193_X9_instrument l g q1 q14 q18 q21 w4 w5 w6 w7 w8 w9 w10 w11 w12 w13 w17 w22 w23 w24 w25 w27 w28 f19 (hf20) s.heap.size) (kV_X9_instrument hE (e1015 hE) rfl rfl ⟨(Nat.le_of_ble_eq_true rfl), (Nat.le_of_ble_eq_true rfl)⟩) [1, 2, 3, 4] rfl (by decide) rfl hl.1 rfl (lv_room (Nat.le_of_ble_eq_true rfl)) dL_instrument_5 ⟨(Nat.le_of_ble_eq_true rfl), (Nat.le_of_ble_eq_true rfl)⟩) hP hD hS hA [1, 2, 3, 4] [0] rfl rfl (by decide) (by decide) (fun u1 H locs hP hD hS => ?_)
  have hP : va_P g.1 vwCl [(q2, .inl (g.2 1, 1, .inr (.inl f29))), (q1, .inr (11, [.ref q14, w4, w5, w6, w7, w8, w9, w10, w11, w12, w13])), (q18, .inl (g.2 3, 10, .inr (.inr (.inr (.inr f19))))), (q14, .inr (10, [.ref q18, .int 0, w17])), (q21, .inr (8, [w22, w23, w24, w25, .int 0, w27, w28]))] H := hP
  have hD : va_D A [(q2, .inl (g.2 1, 1, .inr (.inl f29))), (q1, .inr (11, [.ref q14, w4, w5, w6, w7, w8, w9, w10, w11, w12, w13])), (q18, .inl (g.2 3, 10, .inr (.inr (.inr (.inr f19))))), (q14, .inr (10, [.ref q18, .int 0, w17])), (q21, .inr (8, [w22, w23, w24, w25, .int 0, w27, w28]))] := hD
  refine lv_i2l (v := 0) hx hb dL_instrument_8 (by decide) ?_
  refine x_last (ws' := [(q2, .inl (g.2 1, 1, .inr (.inl (vp_updL f29 0 0)))), (q1, .inr (11, [.ref q14, w4, w5, w6, w7, w8, w9, w10, w11, w12, w13])), (q18, .inl (g.2 3, 10, .inr (.inr (.inr (.inr f19))))), (q14, .inr (10, [.ref q18, .int 0, w17])), (q21, .inr (8, [w22, w23, w24, w25, .int 0, w27, w28]))]) hx hb hE hP hD hS 0 rfl 0 (x_in (by decide)) (by decide) dL_instrument_9 rfl (fun H locs hP hD hS => ?_)
  refine lv_goto (tgt := 21) hx hb dL_instrument_10 (by decide) ?_
  refine lv_iconst (v := 0) hx hb dL_instrument_21 (by decide) ?_
  exact x_zret hx hb hr rfl rfl hlocks hP hD hS hAe hsz (Nat.le_of_ble_eq_true rfl) (Nat.le_of_ble_eq_true rfl) (fun _ => 0) [0] (by decide) rfl dL_instrument_22

set_option maxHeartbeats 4000000 in
set_option maxRecDepth 100000 in
theorem c2195_X10_instrument (l : Launch) (g : gG) (q1 q39 : Nat) (w3 w4 w5 w6 w7 w8 w9 w10 w11 w12 w13 w14 w15 w16 w17 w18 w19 w20 w21 w22 w23 w24 w25 w26 w27 w28 w29 w30 w31 w32 w33 w34 w35 w36 w37 w38 : Value) (f40 : Nat → Int32) (hf41 : f40 392 = 0) (sz : Nat) : Met l yX10_instrument [Cond.code yX10_instrument cX10_instrument 5 (some .int)] ({ frames := 2, cells := 0, slots := 0, locals := 42 } : Room) (va_Pc [.ref q1, .int 1, .int 5] (PX g sz [(q39, .inl (g.2 0, 497, .inl f40)), (q1, .inr (12, [.ref q39, w3, w4, w5, w6, w7, w8, w9, w10, w11, w12, w13, w14, w15, w16, w17, w18, w19, w20, w21, w22, w23, w24, w25, w26, w27, w28, w29, w30, w31, w32, w33, w34, w35, w36, w37, w38]))])) (QI g [(q39, .inl (g.2 0, 497, .inl f40)), (q1, .inr (12, [.ref q39, w3, w4, w5, w6, w7, w8, w9, w10, w11, w12, w13, w14, w15, w16, w17, w18, w19, w20, w21, w22, w23, w24, w25, w26, w27, w28, w29, w30, w31, w32, w33, w34, w35, w36, w37, w38]))] sz 0 (fun _ => [(q1, .inr (12, [.ref q39, w3, w4, w5, w6, w7, .int 0, w9, w10, w11, w12, w13, w14, w15, w16, w17, w18, w19, w20, w21, w22, w23, w24, w25, w26, w27, w28, w29, w30, w31, w32, w33, w34, w35, w36, w37, w38]))])) 0 0 (va_A [(q39, .inl (g.2 0, 497, .inl f40)), (q1, .inr (12, [.ref q39, w3, w4, w5, w6, w7, w8, w9, w10, w11, w12, w13, w14, w15, w16, w17, w18, w19, w20, w21, w22, w23, w24, w25, w26, w27, w28, w29, w30, w31, w32, w33, w34, w35, w36, w37, w38]))] sz) := by
  refine ofN (by decide) (Nat.le_of_ble_eq_true rfl) rfl ?_
  intro p e s m args below meth c A ls hAe hsz hx hb hml hr hlocks hin hown hE hP hD hA hS hl
  have hown : s.vm.findClass RX10 = some m.cls := hown
  refine lv_aload_n hx hb dX10_instrument_0 rfl (lv_at hl 0 rfl) ?_
  refine lv_iload_n hx hb dX10_instrument_1 rfl (lv_at hl 1 rfl) ?_
  refine g0_i (rS (rest := [.ref q1]) hx hb hml hown hE hP hD (c1857_X10_isInstrument l g 1 (by decide) (by decide) s.heap.size) (kS_X10_isInstrument hE (e1645 hE) rfl rfl ⟨(Nat.le_of_ble_eq_true rfl), (Nat.le_of_ble_eq_true rfl)⟩) [] rfl (by decide) rfl hl.1 rfl (lv_room (Nat.le_of_ble_eq_true rfl)) dX10_instrument_2 ⟨(Nat.le_of_ble_eq_true rfl), (Nat.le_of_ble_eq_true rfl)⟩) hP hD hS hA (fun u9 H locs hP hS => ?_)
  refine lv_if_ne (tgt := 12) hx hb dX10_instrument_5 (by decide) (fun _ => ?_) (fun h => absurd h (by decide))
  refine lv_iload_n hx hb dX10_instrument_12 rfl (lv_at hl 2 rfl) ?_
  refine lv_iconst (v := 0) hx hb dX10_instrument_13 (by decide) ?_
  refine lv_iconst (v := 5) hx hb dX10_instrument_14 (by decide) ?_
  refine g0_i (rS (rest := [.ref q1]) hx hb hml hown hE hP hD (c971_X10_in l g 5 (by decide) (by decide) H.size) (kS_X10_in hE (e1431 hE) rfl rfl ⟨(Nat.le_of_ble_eq_true rfl), (Nat.le_of_ble_eq_true rfl)⟩) [] rfl (by decide) rfl hl.1 rfl (lv_room (Nat.le_of_ble_eq_true rfl)) dX10_instrument_15 ⟨(Nat.le_of_ble_eq_true rfl), (Nat.le_of_ble_eq_true rfl)⟩) hP hD hS hA (fun u9 H locs hP hS => ?_)
  refine lv_if_ne (tgt := 25) hx hb dX10_instrument_18 (by decide) (fun _ => ?_) (fun h => absurd h (by decide))
  refine lv_iconst (v := 0) hx hb dX10_instrument_25 (by decide) ?_
  refine pf_RX10_86 (ws' := [(q39, .inl (g.2 0, 497, .inl f40)), (q1, .inr (12, [.ref q39, w3, w4, w5, w6, w7, .int 0, w9, w10, w11, w12, w13, w14, w15, w16, w17, w18, w19, w20, w21, w22, w23, w24, w25, w26, w27, w28, w29, w30, w31, w32, w33, w34, w35, w36, w37, w38]))]) hx hb hown hE hP hD hS 1 rfl rfl rfl (Nat.le_of_ble_eq_true rfl) dX10_instrument_26 rfl (fun H locs hP hD hS => ?_)
  refine lv_aload_n hx hb dX10_instrument_29 rfl (lv_at hl 0 rfl) ?_
  refine gf_RX10_86 hx hb hown hE hP 1 rfl rfl dX10_instrument_30 ?_
  refine lv_if_le (tgt := 38) hx hb dX10_instrument_33 (by decide) (fun _ => ?_) (fun h => absurd (by decide) h)
  refine lv_iconst (v := 0) hx hb dX10_instrument_38 (by decide) ?_
  refine lv_istore_n (lv' := [(3, .int 0), (0, .ref q1), (1, .int 1), (2, .int 5)]) hx hb dX10_instrument_39 rfl hl (by decide) rfl (fun ls hl => ?_)
  refine lv_iconst (v := 0) hx hb dX10_instrument_40 (by decide) ?_
  refine lv_istore (lv' := [(4, .int 0), (3, .int 0), (0, .ref q1), (1, .int 1), (2, .int 5)]) hx hb dX10_instrument_41 hl (by decide) rfl (fun ls hl => ?_)
  refine lv_iload hx hb dX10_instrument_43 (lv_at hl 0 rfl) ?_
  refine lv_aload_n hx hb dX10_instrument_45 rfl (lv_at hl 2 rfl) ?_
  refine gf_RX10_9 hx hb hown hE hP 1 rfl rfl dX10_instrument_46 ?_
  refine lv_sipush (v := 392) hx hb dX10_instrument_49 (by decide) ?_
  refine x_iald (v := 0) hx hb hE hP 0 rfl 392 (x_in (by decide)) (by decide) hf41 dX10_instrument_52 ?_
  refine lv_icmp_ge (tgt := 81) hx hb dX10_instrument_53 (by decide) (fun _ => ?_) (fun h => absurd (by decide) h)
  refine lv_iload_n hx hb dX10_instrument_81 rfl (lv_at hl 4 rfl) ?_
  refine lv_iconst (v := 5) hx hb dX10_instrument_82 (by decide) ?_
  refine lv_icmp_ne (tgt := 90) hx hb dX10_instrument_83 (by decide) (fun h => absurd h (by decide)) (fun _ => ?_)
  refine lv_iload_n hx hb dX10_instrument_86 rfl (lv_at hl 1 rfl) ?_
  refine lv_goto (tgt := 104) hx hb dX10_instrument_87 (by decide) ?_
  exact x_zret hx hb hr rfl rfl hlocks hP hD hS hAe hsz (Nat.le_of_ble_eq_true rfl) (Nat.le_of_ble_eq_true rfl) (fun _ => 0) [1] (by decide) rfl dX10_instrument_104

set_option maxHeartbeats 4000000 in
set_option maxRecDepth 100000 in
theorem c2196_X9_instrument (l : Launch) (g : gG) (q1 q13 q17 q20 q28 : Nat) (w3 w4 w5 w6 w7 w8 w9 w10 w11 w12 w16 w21 w22 w23 w25 w26 w27 : Value) (f18 : Nat → Option Nat) (f29 : Nat → Int32) (hf19 : f18 0 = some q20) (hf30 : f29 10 = 0) (sz : Nat) : Met l yX9_instrument [Cond.code yX9_instrument cX9_instrument 4 (some .int)] ({ frames := 2, cells := 0, slots := 0, locals := 42 } : Room) (va_Pc [.ref q1, .int 2, .int 0] (PX g sz [(q28, .inl (g.2 0, 20, .inl f29)), (q20, .inr (8, [w21, w22, w23, .ref q28, w25, w26, w27])), (q17, .inl (g.2 3, 10, .inr (.inr (.inr (.inr f18))))), (q13, .inr (10, [.ref q17, .int 0, w16])), (q1, .inr (11, [.ref q13, w3, w4, w5, w6, w7, w8, w9, w10, w11, w12]))])) (QI g [(q28, .inl (g.2 0, 20, .inl f29)), (q20, .inr (8, [w21, w22, w23, .ref q28, w25, w26, w27])), (q17, .inl (g.2 3, 10, .inr (.inr (.inr (.inr f18))))), (q13, .inr (10, [.ref q17, .int 0, w16])), (q1, .inr (11, [.ref q13, w3, w4, w5, w6, w7, w8, w9, w10, w11, w12]))] sz 0 (fun _ => [(q1, .inr (11, [.ref q13, w3, w4, w5, w6, w7, w8, w9, w10, w11, w12])), (q17, .inl (g.2 3, 10, .inr (.inr (.inr (.inr f18))))), (q13, .inr (10, [.ref q17, .int 0, w16])), (q28, .inl (g.2 0, 20, .inl f29)), (q20, .inr (8, [w21, w22, w23, .ref q28, w25, w26, w27]))])) 0 0 (va_A [(q28, .inl (g.2 0, 20, .inl f29)), (q20, .inr (8, [w21, w22, w23, .ref q28, w25, w26, w27])), (q17, .inl (g.2 3, 10, .inr (.inr (.inr (.inr f18))))), (q13, .inr (10, [.ref q17, .int 0, w16])), (q1, .inr (11, [.ref q13, w3, w4, w5, w6, w7, w8, w9, w10, w11, w12]))] sz) := by
  refine ofN (by decide) (Nat.le_of_ble_eq_true rfl) rfl ?_
  intro p e s m args below meth c A ls hAe hsz hx hb hml hr hlocks hin hown hE hP hD hA hS hl
  have hown : s.vm.findClass RX9 = some m.cls := hown
  refine lv_iload_n hx hb dX9_instrument_0 rfl (lv_at hl 1 rfl) ?_
  refine g0_v (rS (rest := []) hx hb hml hown hE hP hD (c1854_X9_requireInstrument l g 2 (by decide) (by decide) s.heap.size) (kS_X9_requireInstrument hE (e991 hE) rfl rfl ⟨(Nat.le_of_ble_eq_true rfl), (Nat.le_of_ble_eq_true rfl)⟩) [] rfl (by decide) rfl hl.1 rfl (lv_room (Nat.le_of_ble_eq_true rfl)) dX9_instrument_1 ⟨(Nat.le_of_ble_eq_true rfl), (Nat.le_of_ble_eq_true rfl)⟩) hP hD hS hA (fun u9 H locs hP hS => ?_)
  refine lv_iload_n hx hb dX9_instrument_4 rfl (lv_at hl 2 rfl) ?_
  refine lv_iconst (v := 0) hx hb dX9_instrument_5 (by decide) ?_
  refine lv_iconst (v := 5) hx hb dX9_instrument_6 (by decide) ?_
  refine g0_v (rS (rest := []) hx hb hml hown hE hP hD (c968_X9_requireRange l g 0 (by decide) (by decide) H.size) (kS_X9_requireRange hE (e636 hE) rfl rfl ⟨(Nat.le_of_ble_eq_true rfl), (Nat.le_of_ble_eq_true rfl)⟩) [] rfl (by decide) rfl hl.1 rfl (lv_room (Nat.le_of_ble_eq_true rfl)) dX9_instrument_7 ⟨(Nat.le_of_ble_eq_true rfl), (Nat.le_of_ble_eq_true rfl)⟩) hP hD hS hA (fun u9 H locs hP hS => ?_)
  refine lv_aload_n hx hb dX9_instrument_10 rfl (lv_at hl 0 rfl) ?_
  refine gf_RX9_12 hx hb hown hE hP 4 rfl rfl dX9_instrument_11 ?_
  refine g_r (wr := [(q28, .inl (g.2 0, 20, .inl f29)), (q20, .inr (8, [w21, w22, w23, .ref q28, w25, w26, w27])), (q1, .inr (11, [.ref q13, w3, w4, w5, w6, w7, w8, w9, w10, w11, w12]))]) (rV (rest := []) hx hb hml hown hE hP hD 3 rfl rfl (c71_X8_current l g q13 q17 q20 w16 f18 (hf19) H.size) (kV_X8_current hE (e290 hE) rfl rfl ⟨(Nat.le_of_ble_eq_true rfl), (Nat.le_of_ble_eq_true rfl)⟩) [2, 3] rfl (by decide) rfl hl.1 rfl (lv_room (Nat.le_of_ble_eq_true rfl)) dX9_instrument_14 ⟨(Nat.le_of_ble_eq_true rfl), (Nat.le_of_ble_eq_true rfl)⟩) hP hD hS hA [2, 3] [0, 1, 4] rfl rfl (by decide) (by decide) (fun u3 H locs hP hD hS => ?_)
  have hP : va_P g.1 vwCl [(q28, .inl (g.2 0, 20, .inl f29)), (q20, .inr (8, [w21, w22, w23, .ref q28, w25, w26, w27])), (q1, .inr (11, [.ref q13, w3, w4, w5, w6, w7, w8, w9, w10, w11, w12])), (q17, .inl (g.2 3, 10, .inr (.inr (.inr (.inr f18))))), (q13, .inr (10, [.ref q17, .int 0, w16]))] H := hP
  have hD : va_D A [(q28, .inl (g.2 0, 20, .inl f29)), (q20, .inr (8, [w21, w22, w23, .ref q28, w25, w26, w27])), (q1, .inr (11, [.ref q13, w3, w4, w5, w6, w7, w8, w9, w10, w11, w12])), (q17, .inl (g.2 3, 10, .inr (.inr (.inr (.inr f18))))), (q13, .inr (10, [.ref q17, .int 0, w16]))] := hD
  refine lv_astore_n (lv' := [(3, .ref q20), (0, .ref q1), (1, .int 2), (2, .int 0)]) hx hb dX9_instrument_17 rfl hl (by decide) rfl (fun ls hl => ?_)
  refine lv_iload_n hx hb dX9_instrument_18 rfl (lv_at hl 3 rfl) ?_
  refine lv_iconst (v := 5) hx hb dX9_instrument_19 (by decide) ?_
  refine lv_icmp_ne (tgt := 29) hx hb dX9_instrument_20 (by decide) (fun _ => ?_) (fun h => absurd h (by decide))
  refine lv_aload_n hx hb dX9_instrument_29 rfl (lv_at hl 0 rfl) ?_
  refine lv_iload_n hx hb dX9_instrument_30 rfl (lv_at hl 2 rfl) ?_
  refine lv_iload_n hx hb dX9_instrument_31 rfl (lv_at hl 3 rfl) ?_
  refine g_i (wr := [(q1, .inr (11, [.ref q13, w3, w4, w5, w6, w7, w8, w9, w10, w11, w12])), (q17, .inl (g.2 3, 10, .inr (.inr (.inr (.inr f18))))), (q13, .inr (10, [.ref q17, .int 0, w16]))]) (rV (rest := []) hx hb hml hown hE hP hD 1 rfl rfl (c1889_X6_instrumentNumber l g q20 q28 w21 w22 w23 w25 w26 w27 f29 (hf30) H.size) (kV_X6_instrumentNumber hE (e1010 hE) rfl rfl ⟨(Nat.le_of_ble_eq_true rfl), (Nat.le_of_ble_eq_true rfl)⟩) [0, 1] rfl (by decide) rfl hl.1 rfl (lv_room (Nat.le_of_ble_eq_true rfl)) dX9_instrument_32 ⟨(Nat.le_of_ble_eq_true rfl), (Nat.le_of_ble_eq_true rfl)⟩) hP hD hS hA [0, 1] [2, 3, 4] rfl rfl (by decide) (by decide) (fun u4 H locs hP hD hS => ?_)
  have hP : va_P g.1 vwCl [(q1, .inr (11, [.ref q13, w3, w4, w5, w6, w7, w8, w9, w10, w11, w12])), (q17, .inl (g.2 3, 10, .inr (.inr (.inr (.inr f18))))), (q13, .inr (10, [.ref q17, .int 0, w16])), (q28, .inl (g.2 0, 20, .inl f29)), (q20, .inr (8, [w21, w22, w23, .ref q28, w25, w26, w27]))] H := hP
  have hD : va_D A [(q1, .inr (11, [.ref q13, w3, w4, w5, w6, w7, w8, w9, w10, w11, w12])), (q17, .inl (g.2 3, 10, .inr (.inr (.inr (.inr f18))))), (q13, .inr (10, [.ref q17, .int 0, w16])), (q28, .inl (g.2 0, 20, .inl f29)), (q20, .inr (8, [w21, w22, w23, .ref q28, w25, w26, w27]))] := hD
  exact x_zret hx hb hr rfl rfl hlocks hP hD hS hAe hsz (Nat.le_of_ble_eq_true rfl) (Nat.le_of_ble_eq_true rfl) (fun _ => 0) [0, 1, 2, 3, 4] (by decide) rfl dX9_instrument_35

set_option maxHeartbeats 4000000 in
set_option maxRecDepth 100000 in
theorem c2197_L_instrument (l : Launch) (g : gG) (hlx : l.stackTraces = false) (q1 q2 q14 q18 q21 q29 : Nat) (w4 w5 w6 w7 w8 w9 w10 w11 w12 w13 w17 w22 w23 w24 w26 w27 w28 : Value) (f19 : Nat → Option Nat) (f30 : Nat → Int32) (f32 : Nat → Int64) (hf20 : f19 0 = some q21) (hf31 : f30 10 = 0) (sz : Nat) : Met l yL_instrument [Cond.codeWith yL_instrument cL_instrument 5 (some .int) [(0, 10, 13, 13), (0, 10, 17, 15)]] ({ frames := 3, cells := 0, slots := 0, locals := 65 } : Room) (va_Pc [.ref q1, .int 2, .int 0, .ref q2] (PZ g sz [(q2, .inl (g.2 1, 1, .inr (.inl f32))), (q29, .inl (g.2 0, 20, .inl f30)), (q21, .inr (8, [w22, w23, w24, .ref q29, w26, w27, w28])), (q18, .inl (g.2 3, 10, .inr (.inr (.inr (.inr f19))))), (q14, .inr (10, [.ref q18, .int 0, w17])), (q1, .inr (11, [.ref q14, w4, w5, w6, w7, w8, w9, w10, w11, w12, w13]))])) (QI g [(q2, .inl (g.2 1, 1, .inr (.inl f32))), (q29, .inl (g.2 0, 20, .inl f30)), (q21, .inr (8, [w22, w23, w24, .ref q29, w26, w27, w28])), (q18, .inl (g.2 3, 10, .inr (.inr (.inr (.inr f19))))), (q14, .inr (10, [.ref q18, .int 0, w17])), (q1, .inr (11, [.ref q14, w4, w5, w6, w7, w8, w9, w10, w11, w12, w13]))] sz 0 (fun _ => [(q2, .inl (g.2 1, 1, .inr (.inl (vp_updL f32 0 0))))])) 0 0 (va_A [(q2, .inl (g.2 1, 1, .inr (.inl f32))), (q29, .inl (g.2 0, 20, .inl f30)), (q21, .inr (8, [w22, w23, w24, .ref q29, w26, w27, w28])), (q18, .inl (g.2 3, 10, .inr (.inr (.inr (.inr f19))))), (q14, .inr (10, [.ref q18, .int 0, w17])), (q1, .inr (11, [.ref q14, w4, w5, w6, w7, w8, w9, w10, w11, w12, w13]))] sz) := by
  refine ofH (by decide) (Nat.le_of_ble_eq_true rfl) rfl ?_
  intro p e s m args below meth c A ls hAe hsz hx hb hml hr hlocks hin hown hE hP hD hA hS hl htb hz
  have hown : s.vm.findClass RL = some m.cls := hown
  refine lv_aload_n hx hb dL_instrument_0 rfl (lv_at hl 3 rfl) ?_
  refine lv_iconst (v := 0) hx hb dL_instrument_1 (by decide) ?_
  refine lv_aload_n hx hb dL_instrument_2 rfl (lv_at hl 0 rfl) ?_
  refine lv_iload_n hx hb dL_instrument_3 rfl (lv_at hl 1 rfl) ?_
  refine lv_iload_n hx hb dL_instrument_4 rfl (lv_at hl 2 rfl) ?_
  refine g_i (wr := [(q2, .inl (g.2 1, 1, .inr (.inl f32)))]) (rV (rest := [.int 0, .ref q2]) hx hb hml hown hE hP hD 5 rfl rfl (c2196_X9_instrument l g q1 q14 q18 q21 q29 w4 w5 w6 w7 w8 w9 w10 w11 w12 w13 w17 w22 w23 w24 w26 w27 w28 f19 f30 (hf20) (hf31) s.heap.size) (kV_X9_instrument hE (e1015 hE) rfl rfl ⟨(Nat.le_of_ble_eq_true rfl), (Nat.le_of_ble_eq_true rfl)⟩) [1, 2, 3, 4, 5] rfl (by decide) rfl hl.1 rfl (lv_room (Nat.le_of_ble_eq_true rfl)) dL_instrument_5 ⟨(Nat.le_of_ble_eq_true rfl), (Nat.le_of_ble_eq_true rfl)⟩) hP hD hS hA [1, 2, 3, 4, 5] [0] rfl rfl (by decide) (by decide) (fun u1 H locs hP hD hS => ?_)
  have hP : va_P g.1 vwCl [(q2, .inl (g.2 1, 1, .inr (.inl f32))), (q1, .inr (11, [.ref q14, w4, w5, w6, w7, w8, w9, w10, w11, w12, w13])), (q18, .inl (g.2 3, 10, .inr (.inr (.inr (.inr f19))))), (q14, .inr (10, [.ref q18, .int 0, w17])), (q29, .inl (g.2 0, 20, .inl f30)), (q21, .inr (8, [w22, w23, w24, .ref q29, w26, w27, w28]))] H := hP
  have hD : va_D A [(q2, .inl (g.2 1, 1, .inr (.inl f32))), (q1, .inr (11, [.ref q14, w4, w5, w6, w7, w8, w9, w10, w11, w12, w13])), (q18, .inl (g.2 3, 10, .inr (.inr (.inr (.inr f19))))), (q14, .inr (10, [.ref q18, .int 0, w17])), (q29, .inl (g.2 0, 20, .inl f30)), (q21, .inr (8, [w22, w23, w24, .ref q29, w26, w27, w28]))] := hD
  refine lv_i2l (v := 0) hx hb dL_instrument_8 (by decide) ?_
  refine x_last (ws' := [(q2, .inl (g.2 1, 1, .inr (.inl (vp_updL f32 0 0)))), (q1, .inr (11, [.ref q14, w4, w5, w6, w7, w8, w9, w10, w11, w12, w13])), (q18, .inl (g.2 3, 10, .inr (.inr (.inr (.inr f19))))), (q14, .inr (10, [.ref q18, .int 0, w17])), (q29, .inl (g.2 0, 20, .inl f30)), (q21, .inr (8, [w22, w23, w24, .ref q29, w26, w27, w28]))]) hx hb hE hP hD hS 0 rfl 0 (x_in (by decide)) (by decide) dL_instrument_9 rfl (fun H locs hP hD hS => ?_)
  refine lv_goto (tgt := 21) hx hb dL_instrument_10 (by decide) ?_
  refine lv_iconst (v := 0) hx hb dL_instrument_21 (by decide) ?_
  exact x_zret hx hb hr rfl rfl hlocks hP hD hS hAe hsz (Nat.le_of_ble_eq_true rfl) (Nat.le_of_ble_eq_true rfl) (fun _ => 0) [0] (by decide) rfl dL_instrument_22

set_option maxHeartbeats 4000000 in
set_option maxRecDepth 100000 in
theorem c2198_X10_instrument (l : Launch) (g : gG) (q1 q39 : Nat) (w3 w4 w5 w6 w7 w8 w9 w10 w11 w12 w13 w14 w15 w16 w17 w18 w19 w20 w21 w22 w23 w24 w25 w26 w27 w28 w29 w30 w31 w32 w33 w34 w35 w36 w37 w38 : Value) (f40 : Nat → Int32) (hf41 : f40 392 = 0) (hf42 : f40 484 = 0) (sz : Nat) : Met l yX10_instrument [Cond.code yX10_instrument cX10_instrument 5 (some .int)] ({ frames := 2, cells := 0, slots := 0, locals := 42 } : Room) (va_Pc [.ref q1, .int 2, .int 0] (PX g sz [(q39, .inl (g.2 0, 497, .inl f40)), (q1, .inr (12, [.ref q39, w3, w4, w5, w6, w7, w8, w9, w10, w11, w12, w13, w14, w15, w16, w17, w18, w19, w20, w21, w22, w23, w24, w25, w26, w27, w28, w29, w30, w31, w32, w33, w34, w35, w36, w37, w38]))])) (QI g [(q39, .inl (g.2 0, 497, .inl f40)), (q1, .inr (12, [.ref q39, w3, w4, w5, w6, w7, w8, w9, w10, w11, w12, w13, w14, w15, w16, w17, w18, w19, w20, w21, w22, w23, w24, w25, w26, w27, w28, w29, w30, w31, w32, w33, w34, w35, w36, w37, w38]))] sz 0 (fun _ => [(q1, .inr (12, [.ref q39, w3, w4, w5, w6, w7, .int 0, w9, w10, w11, w12, w13, w14, w15, w16, w17, w18, w19, w20, w21, w22, w23, w24, w25, w26, w27, w28, w29, w30, w31, w32, w33, w34, w35, w36, w37, w38]))])) 0 0 (va_A [(q39, .inl (g.2 0, 497, .inl f40)), (q1, .inr (12, [.ref q39, w3, w4, w5, w6, w7, w8, w9, w10, w11, w12, w13, w14, w15, w16, w17, w18, w19, w20, w21, w22, w23, w24, w25, w26, w27, w28, w29, w30, w31, w32, w33, w34, w35, w36, w37, w38]))] sz) := by
  refine ofN (by decide) (Nat.le_of_ble_eq_true rfl) rfl ?_
  intro p e s m args below meth c A ls hAe hsz hx hb hml hr hlocks hin hown hE hP hD hA hS hl
  have hown : s.vm.findClass RX10 = some m.cls := hown
  refine lv_aload_n hx hb dX10_instrument_0 rfl (lv_at hl 0 rfl) ?_
  refine lv_iload_n hx hb dX10_instrument_1 rfl (lv_at hl 1 rfl) ?_
  refine g0_i (rS (rest := [.ref q1]) hx hb hml hown hE hP hD (c1857_X10_isInstrument l g 2 (by decide) (by decide) s.heap.size) (kS_X10_isInstrument hE (e1645 hE) rfl rfl ⟨(Nat.le_of_ble_eq_true rfl), (Nat.le_of_ble_eq_true rfl)⟩) [] rfl (by decide) rfl hl.1 rfl (lv_room (Nat.le_of_ble_eq_true rfl)) dX10_instrument_2 ⟨(Nat.le_of_ble_eq_true rfl), (Nat.le_of_ble_eq_true rfl)⟩) hP hD hS hA (fun u9 H locs hP hS => ?_)
  refine lv_if_ne (tgt := 12) hx hb dX10_instrument_5 (by decide) (fun _ => ?_) (fun h => absurd h (by decide))
  refine lv_iload_n hx hb dX10_instrument_12 rfl (lv_at hl 2 rfl) ?_
  refine lv_iconst (v := 0) hx hb dX10_instrument_13 (by decide) ?_
  refine lv_iconst (v := 5) hx hb dX10_instrument_14 (by decide) ?_
  refine g0_i (rS (rest := [.ref q1]) hx hb hml hown hE hP hD (c971_X10_in l g 0 (by decide) (by decide) H.size) (kS_X10_in hE (e1431 hE) rfl rfl ⟨(Nat.le_of_ble_eq_true rfl), (Nat.le_of_ble_eq_true rfl)⟩) [] rfl (by decide) rfl hl.1 rfl (lv_room (Nat.le_of_ble_eq_true rfl)) dX10_instrument_15 ⟨(Nat.le_of_ble_eq_true rfl), (Nat.le_of_ble_eq_true rfl)⟩) hP hD hS hA (fun u9 H locs hP hS => ?_)
  refine lv_if_ne (tgt := 25) hx hb dX10_instrument_18 (by decide) (fun _ => ?_) (fun h => absurd h (by decide))
  refine lv_iconst (v := 0) hx hb dX10_instrument_25 (by decide) ?_
  refine pf_RX10_86 (ws' := [(q39, .inl (g.2 0, 497, .inl f40)), (q1, .inr (12, [.ref q39, w3, w4, w5, w6, w7, .int 0, w9, w10, w11, w12, w13, w14, w15, w16, w17, w18, w19, w20, w21, w22, w23, w24, w25, w26, w27, w28, w29, w30, w31, w32, w33, w34, w35, w36, w37, w38]))]) hx hb hown hE hP hD hS 1 rfl rfl rfl (Nat.le_of_ble_eq_true rfl) dX10_instrument_26 rfl (fun H locs hP hD hS => ?_)
  refine lv_aload_n hx hb dX10_instrument_29 rfl (lv_at hl 0 rfl) ?_
  refine gf_RX10_86 hx hb hown hE hP 1 rfl rfl dX10_instrument_30 ?_
  refine lv_if_le (tgt := 38) hx hb dX10_instrument_33 (by decide) (fun _ => ?_) (fun h => absurd (by decide) h)
  refine lv_iconst (v := 0) hx hb dX10_instrument_38 (by decide) ?_
  refine lv_istore_n (lv' := [(3, .int 0), (0, .ref q1), (1, .int 2), (2, .int 0)]) hx hb dX10_instrument_39 rfl hl (by decide) rfl (fun ls hl => ?_)
  refine lv_iconst (v := 0) hx hb dX10_instrument_40 (by decide) ?_
  refine lv_istore (lv' := [(4, .int 0), (3, .int 0), (0, .ref q1), (1, .int 2), (2, .int 0)]) hx hb dX10_instrument_41 hl (by decide) rfl (fun ls hl => ?_)
  refine lv_iload hx hb dX10_instrument_43 (lv_at hl 0 rfl) ?_
  refine lv_aload_n hx hb dX10_instrument_45 rfl (lv_at hl 2 rfl) ?_
  refine gf_RX10_9 hx hb hown hE hP 1 rfl rfl dX10_instrument_46 ?_
  refine lv_sipush (v := 392) hx hb dX10_instrument_49 (by decide) ?_
  refine x_iald (v := 0) hx hb hE hP 0 rfl 392 (x_in (by decide)) (by decide) hf41 dX10_instrument_52 ?_
  refine lv_icmp_ge (tgt := 81) hx hb dX10_instrument_53 (by decide) (fun _ => ?_) (fun h => absurd (by decide) h)
  refine lv_iload_n hx hb dX10_instrument_81 rfl (lv_at hl 4 rfl) ?_
  refine lv_iconst (v := 5) hx hb dX10_instrument_82 (by decide) ?_
  refine lv_icmp_ne (tgt := 90) hx hb dX10_instrument_83 (by decide) (fun _ => ?_) (fun h => absurd h (by decide))
  refine lv_aload_n hx hb dX10_instrument_90 rfl (lv_at hl 2 rfl) ?_
  refine gf_RX10_9 hx hb hown hE hP 1 rfl rfl dX10_instrument_91 ?_
  refine lv_sipush (v := 474) hx hb dX10_instrument_94 (by decide) ?_
  refine lv_iconst (v := 5) hx hb dX10_instrument_97 (by decide) ?_
  refine lv_iload_n hx hb dX10_instrument_98 rfl (lv_at hl 3 rfl) ?_
  refine x_imul (v := 10) hx hb dX10_instrument_99 (by decide) ?_
  refine x_iadd (v := 484) hx hb dX10_instrument_100 (by decide) ?_
  refine lv_iload_n hx hb dX10_instrument_101 rfl (lv_at hl 4 rfl) ?_
  refine x_iadd (v := 484) hx hb dX10_instrument_102 (by decide) ?_
  refine x_iald (v := 0) hx hb hE hP 0 rfl 484 (x_in (by decide)) (by decide) hf42 dX10_instrument_103 ?_
  exact x_zret hx hb hr rfl rfl hlocks hP hD hS hAe hsz (Nat.le_of_ble_eq_true rfl) (Nat.le_of_ble_eq_true rfl) (fun _ => 0) [1] (by decide) rfl dX10_instrument_104

set_option maxHeartbeats 4000000 in
set_option maxRecDepth 100000 in
theorem c2199_X9_instrument (l : Launch) (g : gG) (q1 q13 q17 q20 q28 : Nat) (w3 w4 w5 w6 w7 w8 w9 w10 w11 w12 w16 w21 w22 w23 w25 w26 w27 : Value) (f18 : Nat → Option Nat) (f29 : Nat → Int32) (hf19 : f18 0 = some q20) (hf30 : f29 11 = 0) (sz : Nat) : Met l yX9_instrument [Cond.code yX9_instrument cX9_instrument 4 (some .int)] ({ frames := 2, cells := 0, slots := 0, locals := 42 } : Room) (va_Pc [.ref q1, .int 2, .int 1] (PX g sz [(q28, .inl (g.2 0, 20, .inl f29)), (q20, .inr (8, [w21, w22, w23, .ref q28, w25, w26, w27])), (q17, .inl (g.2 3, 10, .inr (.inr (.inr (.inr f18))))), (q13, .inr (10, [.ref q17, .int 0, w16])), (q1, .inr (11, [.ref q13, w3, w4, w5, w6, w7, w8, w9, w10, w11, w12]))])) (QI g [(q28, .inl (g.2 0, 20, .inl f29)), (q20, .inr (8, [w21, w22, w23, .ref q28, w25, w26, w27])), (q17, .inl (g.2 3, 10, .inr (.inr (.inr (.inr f18))))), (q13, .inr (10, [.ref q17, .int 0, w16])), (q1, .inr (11, [.ref q13, w3, w4, w5, w6, w7, w8, w9, w10, w11, w12]))] sz 0 (fun _ => [(q1, .inr (11, [.ref q13, w3, w4, w5, w6, w7, w8, w9, w10, w11, w12])), (q17, .inl (g.2 3, 10, .inr (.inr (.inr (.inr f18))))), (q13, .inr (10, [.ref q17, .int 0, w16])), (q28, .inl (g.2 0, 20, .inl f29)), (q20, .inr (8, [w21, w22, w23, .ref q28, w25, w26, w27]))])) 0 0 (va_A [(q28, .inl (g.2 0, 20, .inl f29)), (q20, .inr (8, [w21, w22, w23, .ref q28, w25, w26, w27])), (q17, .inl (g.2 3, 10, .inr (.inr (.inr (.inr f18))))), (q13, .inr (10, [.ref q17, .int 0, w16])), (q1, .inr (11, [.ref q13, w3, w4, w5, w6, w7, w8, w9, w10, w11, w12]))] sz) := by
  refine ofN (by decide) (Nat.le_of_ble_eq_true rfl) rfl ?_
  intro p e s m args below meth c A ls hAe hsz hx hb hml hr hlocks hin hown hE hP hD hA hS hl
  have hown : s.vm.findClass RX9 = some m.cls := hown
  refine lv_iload_n hx hb dX9_instrument_0 rfl (lv_at hl 1 rfl) ?_
  refine g0_v (rS (rest := []) hx hb hml hown hE hP hD (c1854_X9_requireInstrument l g 2 (by decide) (by decide) s.heap.size) (kS_X9_requireInstrument hE (e991 hE) rfl rfl ⟨(Nat.le_of_ble_eq_true rfl), (Nat.le_of_ble_eq_true rfl)⟩) [] rfl (by decide) rfl hl.1 rfl (lv_room (Nat.le_of_ble_eq_true rfl)) dX9_instrument_1 ⟨(Nat.le_of_ble_eq_true rfl), (Nat.le_of_ble_eq_true rfl)⟩) hP hD hS hA (fun u9 H locs hP hS => ?_)
  refine lv_iload_n hx hb dX9_instrument_4 rfl (lv_at hl 2 rfl) ?_
  refine lv_iconst (v := 0) hx hb dX9_instrument_5 (by decide) ?_
  refine lv_iconst (v := 5) hx hb dX9_instrument_6 (by decide) ?_
  refine g0_v (rS (rest := []) hx hb hml hown hE hP hD (c968_X9_requireRange l g 1 (by decide) (by decide) H.size) (kS_X9_requireRange hE (e636 hE) rfl rfl ⟨(Nat.le_of_ble_eq_true rfl), (Nat.le_of_ble_eq_true rfl)⟩) [] rfl (by decide) rfl hl.1 rfl (lv_room (Nat.le_of_ble_eq_true rfl)) dX9_instrument_7 ⟨(Nat.le_of_ble_eq_true rfl), (Nat.le_of_ble_eq_true rfl)⟩) hP hD hS hA (fun u9 H locs hP hS => ?_)
  refine lv_aload_n hx hb dX9_instrument_10 rfl (lv_at hl 0 rfl) ?_
  refine gf_RX9_12 hx hb hown hE hP 4 rfl rfl dX9_instrument_11 ?_
  refine g_r (wr := [(q28, .inl (g.2 0, 20, .inl f29)), (q20, .inr (8, [w21, w22, w23, .ref q28, w25, w26, w27])), (q1, .inr (11, [.ref q13, w3, w4, w5, w6, w7, w8, w9, w10, w11, w12]))]) (rV (rest := []) hx hb hml hown hE hP hD 3 rfl rfl (c71_X8_current l g q13 q17 q20 w16 f18 (hf19) H.size) (kV_X8_current hE (e290 hE) rfl rfl ⟨(Nat.le_of_ble_eq_true rfl), (Nat.le_of_ble_eq_true rfl)⟩) [2, 3] rfl (by decide) rfl hl.1 rfl (lv_room (Nat.le_of_ble_eq_true rfl)) dX9_instrument_14 ⟨(Nat.le_of_ble_eq_true rfl), (Nat.le_of_ble_eq_true rfl)⟩) hP hD hS hA [2, 3] [0, 1, 4] rfl rfl (by decide) (by decide) (fun u3 H locs hP hD hS => ?_)
  have hP : va_P g.1 vwCl [(q28, .inl (g.2 0, 20, .inl f29)), (q20, .inr (8, [w21, w22, w23, .ref q28, w25, w26, w27])), (q1, .inr (11, [.ref q13, w3, w4, w5, w6, w7, w8, w9, w10, w11, w12])), (q17, .inl (g.2 3, 10, .inr (.inr (.inr (.inr f18))))), (q13, .inr (10, [.ref q17, .int 0, w16]))] H := hP
  have hD : va_D A [(q28, .inl (g.2 0, 20, .inl f29)), (q20, .inr (8, [w21, w22, w23, .ref q28, w25, w26, w27])), (q1, .inr (11, [.ref q13, w3, w4, w5, w6, w7, w8, w9, w10, w11, w12])), (q17, .inl (g.2 3, 10, .inr (.inr (.inr (.inr f18))))), (q13, .inr (10, [.ref q17, .int 0, w16]))] := hD
  refine lv_astore_n (lv' := [(3, .ref q20), (0, .ref q1), (1, .int 2), (2, .int 1)]) hx hb dX9_instrument_17 rfl hl (by decide) rfl (fun ls hl => ?_)
  refine lv_iload_n hx hb dX9_instrument_18 rfl (lv_at hl 3 rfl) ?_
  refine lv_iconst (v := 5) hx hb dX9_instrument_19 (by decide) ?_
  refine lv_icmp_ne (tgt := 29) hx hb dX9_instrument_20 (by decide) (fun _ => ?_) (fun h => absurd h (by decide))
  refine lv_aload_n hx hb dX9_instrument_29 rfl (lv_at hl 0 rfl) ?_
  refine lv_iload_n hx hb dX9_instrument_30 rfl (lv_at hl 2 rfl) ?_
  refine lv_iload_n hx hb dX9_instrument_31 rfl (lv_at hl 3 rfl) ?_
  refine g_i (wr := [(q1, .inr (11, [.ref q13, w3, w4, w5, w6, w7, w8, w9, w10, w11, w12])), (q17, .inl (g.2 3, 10, .inr (.inr (.inr (.inr f18))))), (q13, .inr (10, [.ref q17, .int 0, w16]))]) (rV (rest := []) hx hb hml hown hE hP hD 1 rfl rfl (c1890_X6_instrumentNumber l g q20 q28 w21 w22 w23 w25 w26 w27 f29 (hf30) H.size) (kV_X6_instrumentNumber hE (e1010 hE) rfl rfl ⟨(Nat.le_of_ble_eq_true rfl), (Nat.le_of_ble_eq_true rfl)⟩) [0, 1] rfl (by decide) rfl hl.1 rfl (lv_room (Nat.le_of_ble_eq_true rfl)) dX9_instrument_32 ⟨(Nat.le_of_ble_eq_true rfl), (Nat.le_of_ble_eq_true rfl)⟩) hP hD hS hA [0, 1] [2, 3, 4] rfl rfl (by decide) (by decide) (fun u4 H locs hP hD hS => ?_)
  have hP : va_P g.1 vwCl [(q1, .inr (11, [.ref q13, w3, w4, w5, w6, w7, w8, w9, w10, w11, w12])), (q17, .inl (g.2 3, 10, .inr (.inr (.inr (.inr f18))))), (q13, .inr (10, [.ref q17, .int 0, w16])), (q28, .inl (g.2 0, 20, .inl f29)), (q20, .inr (8, [w21, w22, w23, .ref q28, w25, w26, w27]))] H := hP
  have hD : va_D A [(q1, .inr (11, [.ref q13, w3, w4, w5, w6, w7, w8, w9, w10, w11, w12])), (q17, .inl (g.2 3, 10, .inr (.inr (.inr (.inr f18))))), (q13, .inr (10, [.ref q17, .int 0, w16])), (q28, .inl (g.2 0, 20, .inl f29)), (q20, .inr (8, [w21, w22, w23, .ref q28, w25, w26, w27]))] := hD
  exact x_zret hx hb hr rfl rfl hlocks hP hD hS hAe hsz (Nat.le_of_ble_eq_true rfl) (Nat.le_of_ble_eq_true rfl) (fun _ => 0) [0, 1, 2, 3, 4] (by decide) rfl dX9_instrument_35

set_option maxHeartbeats 4000000 in
set_option maxRecDepth 100000 in
theorem c2200_L_instrument (l : Launch) (g : gG) (hlx : l.stackTraces = false) (q1 q2 q14 q18 q21 q29 : Nat) (w4 w5 w6 w7 w8 w9 w10 w11 w12 w13 w17 w22 w23 w24 w26 w27 w28 : Value) (f19 : Nat → Option Nat) (f30 : Nat → Int32) (f32 : Nat → Int64) (hf20 : f19 0 = some q21) (hf31 : f30 11 = 0) (sz : Nat) : Met l yL_instrument [Cond.codeWith yL_instrument cL_instrument 5 (some .int) [(0, 10, 13, 13), (0, 10, 17, 15)]] ({ frames := 3, cells := 0, slots := 0, locals := 65 } : Room) (va_Pc [.ref q1, .int 2, .int 1, .ref q2] (PZ g sz [(q2, .inl (g.2 1, 1, .inr (.inl f32))), (q29, .inl (g.2 0, 20, .inl f30)), (q21, .inr (8, [w22, w23, w24, .ref q29, w26, w27, w28])), (q18, .inl (g.2 3, 10, .inr (.inr (.inr (.inr f19))))), (q14, .inr (10, [.ref q18, .int 0, w17])), (q1, .inr (11, [.ref q14, w4, w5, w6, w7, w8, w9, w10, w11, w12, w13]))])) (QI g [(q2, .inl (g.2 1, 1, .inr (.inl f32))), (q29, .inl (g.2 0, 20, .inl f30)), (q21, .inr (8, [w22, w23, w24, .ref q29, w26, w27, w28])), (q18, .inl (g.2 3, 10, .inr (.inr (.inr (.inr f19))))), (q14, .inr (10, [.ref q18, .int 0, w17])), (q1, .inr (11, [.ref q14, w4, w5, w6, w7, w8, w9, w10, w11, w12, w13]))] sz 0 (fun _ => [(q2, .inl (g.2 1, 1, .inr (.inl (vp_updL f32 0 0))))])) 0 0 (va_A [(q2, .inl (g.2 1, 1, .inr (.inl f32))), (q29, .inl (g.2 0, 20, .inl f30)), (q21, .inr (8, [w22, w23, w24, .ref q29, w26, w27, w28])), (q18, .inl (g.2 3, 10, .inr (.inr (.inr (.inr f19))))), (q14, .inr (10, [.ref q18, .int 0, w17])), (q1, .inr (11, [.ref q14, w4, w5, w6, w7, w8, w9, w10, w11, w12, w13]))] sz) := by
  refine ofH (by decide) (Nat.le_of_ble_eq_true rfl) rfl ?_
  intro p e s m args below meth c A ls hAe hsz hx hb hml hr hlocks hin hown hE hP hD hA hS hl htb hz
  have hown : s.vm.findClass RL = some m.cls := hown
  refine lv_aload_n hx hb dL_instrument_0 rfl (lv_at hl 3 rfl) ?_
  refine lv_iconst (v := 0) hx hb dL_instrument_1 (by decide) ?_
  refine lv_aload_n hx hb dL_instrument_2 rfl (lv_at hl 0 rfl) ?_
  refine lv_iload_n hx hb dL_instrument_3 rfl (lv_at hl 1 rfl) ?_
  refine lv_iload_n hx hb dL_instrument_4 rfl (lv_at hl 2 rfl) ?_
  refine g_i (wr := [(q2, .inl (g.2 1, 1, .inr (.inl f32)))]) (rV (rest := [.int 0, .ref q2]) hx hb hml hown hE hP hD 5 rfl rfl (c2199_X9_instrument l g q1 q14 q18 q21 q29 w4 w5 w6 w7 w8 w9 w10 w11 w12 w13 w17 w22 w23 w24 w26 w27 w28 f19 f30 (hf20) (hf31) s.heap.size) (kV_X9_instrument hE (e1015 hE) rfl rfl ⟨(Nat.le_of_ble_eq_true rfl), (Nat.le_of_ble_eq_true rfl)⟩) [1, 2, 3, 4, 5] rfl (by decide) rfl hl.1 rfl (lv_room (Nat.le_of_ble_eq_true rfl)) dL_instrument_5 ⟨(Nat.le_of_ble_eq_true rfl), (Nat.le_of_ble_eq_true rfl)⟩) hP hD hS hA [1, 2, 3, 4, 5] [0] rfl rfl (by decide) (by decide) (fun u1 H locs hP hD hS => ?_)
  have hP : va_P g.1 vwCl [(q2, .inl (g.2 1, 1, .inr (.inl f32))), (q1, .inr (11, [.ref q14, w4, w5, w6, w7, w8, w9, w10, w11, w12, w13])), (q18, .inl (g.2 3, 10, .inr (.inr (.inr (.inr f19))))), (q14, .inr (10, [.ref q18, .int 0, w17])), (q29, .inl (g.2 0, 20, .inl f30)), (q21, .inr (8, [w22, w23, w24, .ref q29, w26, w27, w28]))] H := hP
  have hD : va_D A [(q2, .inl (g.2 1, 1, .inr (.inl f32))), (q1, .inr (11, [.ref q14, w4, w5, w6, w7, w8, w9, w10, w11, w12, w13])), (q18, .inl (g.2 3, 10, .inr (.inr (.inr (.inr f19))))), (q14, .inr (10, [.ref q18, .int 0, w17])), (q29, .inl (g.2 0, 20, .inl f30)), (q21, .inr (8, [w22, w23, w24, .ref q29, w26, w27, w28]))] := hD
  refine lv_i2l (v := 0) hx hb dL_instrument_8 (by decide) ?_
  refine x_last (ws' := [(q2, .inl (g.2 1, 1, .inr (.inl (vp_updL f32 0 0)))), (q1, .inr (11, [.ref q14, w4, w5, w6, w7, w8, w9, w10, w11, w12, w13])), (q18, .inl (g.2 3, 10, .inr (.inr (.inr (.inr f19))))), (q14, .inr (10, [.ref q18, .int 0, w17])), (q29, .inl (g.2 0, 20, .inl f30)), (q21, .inr (8, [w22, w23, w24, .ref q29, w26, w27, w28]))]) hx hb hE hP hD hS 0 rfl 0 (x_in (by decide)) (by decide) dL_instrument_9 rfl (fun H locs hP hD hS => ?_)
  refine lv_goto (tgt := 21) hx hb dL_instrument_10 (by decide) ?_
  refine lv_iconst (v := 0) hx hb dL_instrument_21 (by decide) ?_
  exact x_zret hx hb hr rfl rfl hlocks hP hD hS hAe hsz (Nat.le_of_ble_eq_true rfl) (Nat.le_of_ble_eq_true rfl) (fun _ => 0) [0] (by decide) rfl dL_instrument_22

set_option maxHeartbeats 4000000 in
set_option maxRecDepth 100000 in
theorem c2201_X10_instrument (l : Launch) (g : gG) (q1 q39 : Nat) (w3 w4 w5 w6 w7 w8 w9 w10 w11 w12 w13 w14 w15 w16 w17 w18 w19 w20 w21 w22 w23 w24 w25 w26 w27 w28 w29 w30 w31 w32 w33 w34 w35 w36 w37 w38 : Value) (f40 : Nat → Int32) (hf41 : f40 392 = 0) (hf42 : f40 485 = 0) (sz : Nat) : Met l yX10_instrument [Cond.code yX10_instrument cX10_instrument 5 (some .int)] ({ frames := 2, cells := 0, slots := 0, locals := 42 } : Room) (va_Pc [.ref q1, .int 2, .int 1] (PX g sz [(q39, .inl (g.2 0, 497, .inl f40)), (q1, .inr (12, [.ref q39, w3, w4, w5, w6, w7, w8, w9, w10, w11, w12, w13, w14, w15, w16, w17, w18, w19, w20, w21, w22, w23, w24, w25, w26, w27, w28, w29, w30, w31, w32, w33, w34, w35, w36, w37, w38]))])) (QI g [(q39, .inl (g.2 0, 497, .inl f40)), (q1, .inr (12, [.ref q39, w3, w4, w5, w6, w7, w8, w9, w10, w11, w12, w13, w14, w15, w16, w17, w18, w19, w20, w21, w22, w23, w24, w25, w26, w27, w28, w29, w30, w31, w32, w33, w34, w35, w36, w37, w38]))] sz 0 (fun _ => [(q1, .inr (12, [.ref q39, w3, w4, w5, w6, w7, .int 0, w9, w10, w11, w12, w13, w14, w15, w16, w17, w18, w19, w20, w21, w22, w23, w24, w25, w26, w27, w28, w29, w30, w31, w32, w33, w34, w35, w36, w37, w38]))])) 0 0 (va_A [(q39, .inl (g.2 0, 497, .inl f40)), (q1, .inr (12, [.ref q39, w3, w4, w5, w6, w7, w8, w9, w10, w11, w12, w13, w14, w15, w16, w17, w18, w19, w20, w21, w22, w23, w24, w25, w26, w27, w28, w29, w30, w31, w32, w33, w34, w35, w36, w37, w38]))] sz) := by
  refine ofN (by decide) (Nat.le_of_ble_eq_true rfl) rfl ?_
  intro p e s m args below meth c A ls hAe hsz hx hb hml hr hlocks hin hown hE hP hD hA hS hl
  have hown : s.vm.findClass RX10 = some m.cls := hown
  refine lv_aload_n hx hb dX10_instrument_0 rfl (lv_at hl 0 rfl) ?_
  refine lv_iload_n hx hb dX10_instrument_1 rfl (lv_at hl 1 rfl) ?_
  refine g0_i (rS (rest := [.ref q1]) hx hb hml hown hE hP hD (c1857_X10_isInstrument l g 2 (by decide) (by decide) s.heap.size) (kS_X10_isInstrument hE (e1645 hE) rfl rfl ⟨(Nat.le_of_ble_eq_true rfl), (Nat.le_of_ble_eq_true rfl)⟩) [] rfl (by decide) rfl hl.1 rfl (lv_room (Nat.le_of_ble_eq_true rfl)) dX10_instrument_2 ⟨(Nat.le_of_ble_eq_true rfl), (Nat.le_of_ble_eq_true rfl)⟩) hP hD hS hA (fun u9 H locs hP hS => ?_)
  refine lv_if_ne (tgt := 12) hx hb dX10_instrument_5 (by decide) (fun _ => ?_) (fun h => absurd h (by decide))
  refine lv_iload_n hx hb dX10_instrument_12 rfl (lv_at hl 2 rfl) ?_
  refine lv_iconst (v := 0) hx hb dX10_instrument_13 (by decide) ?_
  refine lv_iconst (v := 5) hx hb dX10_instrument_14 (by decide) ?_
  refine g0_i (rS (rest := [.ref q1]) hx hb hml hown hE hP hD (c971_X10_in l g 1 (by decide) (by decide) H.size) (kS_X10_in hE (e1431 hE) rfl rfl ⟨(Nat.le_of_ble_eq_true rfl), (Nat.le_of_ble_eq_true rfl)⟩) [] rfl (by decide) rfl hl.1 rfl (lv_room (Nat.le_of_ble_eq_true rfl)) dX10_instrument_15 ⟨(Nat.le_of_ble_eq_true rfl), (Nat.le_of_ble_eq_true rfl)⟩) hP hD hS hA (fun u9 H locs hP hS => ?_)
  refine lv_if_ne (tgt := 25) hx hb dX10_instrument_18 (by decide) (fun _ => ?_) (fun h => absurd h (by decide))
  refine lv_iconst (v := 0) hx hb dX10_instrument_25 (by decide) ?_
  refine pf_RX10_86 (ws' := [(q39, .inl (g.2 0, 497, .inl f40)), (q1, .inr (12, [.ref q39, w3, w4, w5, w6, w7, .int 0, w9, w10, w11, w12, w13, w14, w15, w16, w17, w18, w19, w20, w21, w22, w23, w24, w25, w26, w27, w28, w29, w30, w31, w32, w33, w34, w35, w36, w37, w38]))]) hx hb hown hE hP hD hS 1 rfl rfl rfl (Nat.le_of_ble_eq_true rfl) dX10_instrument_26 rfl (fun H locs hP hD hS => ?_)
  refine lv_aload_n hx hb dX10_instrument_29 rfl (lv_at hl 0 rfl) ?_
  refine gf_RX10_86 hx hb hown hE hP 1 rfl rfl dX10_instrument_30 ?_
  refine lv_if_le (tgt := 38) hx hb dX10_instrument_33 (by decide) (fun _ => ?_) (fun h => absurd (by decide) h)
  refine lv_iconst (v := 0) hx hb dX10_instrument_38 (by decide) ?_
  refine lv_istore_n (lv' := [(3, .int 0), (0, .ref q1), (1, .int 2), (2, .int 1)]) hx hb dX10_instrument_39 rfl hl (by decide) rfl (fun ls hl => ?_)
  refine lv_iconst (v := 0) hx hb dX10_instrument_40 (by decide) ?_
  refine lv_istore (lv' := [(4, .int 0), (3, .int 0), (0, .ref q1), (1, .int 2), (2, .int 1)]) hx hb dX10_instrument_41 hl (by decide) rfl (fun ls hl => ?_)
  refine lv_iload hx hb dX10_instrument_43 (lv_at hl 0 rfl) ?_
  refine lv_aload_n hx hb dX10_instrument_45 rfl (lv_at hl 2 rfl) ?_
  refine gf_RX10_9 hx hb hown hE hP 1 rfl rfl dX10_instrument_46 ?_
  refine lv_sipush (v := 392) hx hb dX10_instrument_49 (by decide) ?_
  refine x_iald (v := 0) hx hb hE hP 0 rfl 392 (x_in (by decide)) (by decide) hf41 dX10_instrument_52 ?_
  refine lv_icmp_ge (tgt := 81) hx hb dX10_instrument_53 (by decide) (fun _ => ?_) (fun h => absurd (by decide) h)
  refine lv_iload_n hx hb dX10_instrument_81 rfl (lv_at hl 4 rfl) ?_
  refine lv_iconst (v := 5) hx hb dX10_instrument_82 (by decide) ?_
  refine lv_icmp_ne (tgt := 90) hx hb dX10_instrument_83 (by decide) (fun _ => ?_) (fun h => absurd h (by decide))
  refine lv_aload_n hx hb dX10_instrument_90 rfl (lv_at hl 2 rfl) ?_
  refine gf_RX10_9 hx hb hown hE hP 1 rfl rfl dX10_instrument_91 ?_
  refine lv_sipush (v := 474) hx hb dX10_instrument_94 (by decide) ?_
  refine lv_iconst (v := 5) hx hb dX10_instrument_97 (by decide) ?_
  refine lv_iload_n hx hb dX10_instrument_98 rfl (lv_at hl 3 rfl) ?_
  refine x_imul (v := 10) hx hb dX10_instrument_99 (by decide) ?_
  refine x_iadd (v := 484) hx hb dX10_instrument_100 (by decide) ?_
  refine lv_iload_n hx hb dX10_instrument_101 rfl (lv_at hl 4 rfl) ?_
  refine x_iadd (v := 485) hx hb dX10_instrument_102 (by decide) ?_
  refine x_iald (v := 0) hx hb hE hP 0 rfl 485 (x_in (by decide)) (by decide) hf42 dX10_instrument_103 ?_
  exact x_zret hx hb hr rfl rfl hlocks hP hD hS hAe hsz (Nat.le_of_ble_eq_true rfl) (Nat.le_of_ble_eq_true rfl) (fun _ => 0) [1] (by decide) rfl dX10_instrument_104

set_option maxHeartbeats 4000000 in
set_option maxRecDepth 100000 in
theorem c2202_X9_instrument (l : Launch) (g : gG) (q1 q13 q17 q20 q28 : Nat) (w3 w4 w5 w6 w7 w8 w9 w10 w11 w12 w16 w21 w22 w23 w25 w26 w27 : Value) (f18 : Nat → Option Nat) (f29 : Nat → Int32) (hf19 : f18 0 = some q20) (hf30 : f29 12 = 100) (sz : Nat) : Met l yX9_instrument [Cond.code yX9_instrument cX9_instrument 4 (some .int)] ({ frames := 2, cells := 0, slots := 0, locals := 42 } : Room) (va_Pc [.ref q1, .int 2, .int 2] (PX g sz [(q28, .inl (g.2 0, 20, .inl f29)), (q20, .inr (8, [w21, w22, w23, .ref q28, w25, w26, w27])), (q17, .inl (g.2 3, 10, .inr (.inr (.inr (.inr f18))))), (q13, .inr (10, [.ref q17, .int 0, w16])), (q1, .inr (11, [.ref q13, w3, w4, w5, w6, w7, w8, w9, w10, w11, w12]))])) (QI g [(q28, .inl (g.2 0, 20, .inl f29)), (q20, .inr (8, [w21, w22, w23, .ref q28, w25, w26, w27])), (q17, .inl (g.2 3, 10, .inr (.inr (.inr (.inr f18))))), (q13, .inr (10, [.ref q17, .int 0, w16])), (q1, .inr (11, [.ref q13, w3, w4, w5, w6, w7, w8, w9, w10, w11, w12]))] sz 100 (fun _ => [(q1, .inr (11, [.ref q13, w3, w4, w5, w6, w7, w8, w9, w10, w11, w12])), (q17, .inl (g.2 3, 10, .inr (.inr (.inr (.inr f18))))), (q13, .inr (10, [.ref q17, .int 0, w16])), (q28, .inl (g.2 0, 20, .inl f29)), (q20, .inr (8, [w21, w22, w23, .ref q28, w25, w26, w27]))])) 0 0 (va_A [(q28, .inl (g.2 0, 20, .inl f29)), (q20, .inr (8, [w21, w22, w23, .ref q28, w25, w26, w27])), (q17, .inl (g.2 3, 10, .inr (.inr (.inr (.inr f18))))), (q13, .inr (10, [.ref q17, .int 0, w16])), (q1, .inr (11, [.ref q13, w3, w4, w5, w6, w7, w8, w9, w10, w11, w12]))] sz) := by
  refine ofN (by decide) (Nat.le_of_ble_eq_true rfl) rfl ?_
  intro p e s m args below meth c A ls hAe hsz hx hb hml hr hlocks hin hown hE hP hD hA hS hl
  have hown : s.vm.findClass RX9 = some m.cls := hown
  refine lv_iload_n hx hb dX9_instrument_0 rfl (lv_at hl 1 rfl) ?_
  refine g0_v (rS (rest := []) hx hb hml hown hE hP hD (c1854_X9_requireInstrument l g 2 (by decide) (by decide) s.heap.size) (kS_X9_requireInstrument hE (e991 hE) rfl rfl ⟨(Nat.le_of_ble_eq_true rfl), (Nat.le_of_ble_eq_true rfl)⟩) [] rfl (by decide) rfl hl.1 rfl (lv_room (Nat.le_of_ble_eq_true rfl)) dX9_instrument_1 ⟨(Nat.le_of_ble_eq_true rfl), (Nat.le_of_ble_eq_true rfl)⟩) hP hD hS hA (fun u9 H locs hP hS => ?_)
  refine lv_iload_n hx hb dX9_instrument_4 rfl (lv_at hl 2 rfl) ?_
  refine lv_iconst (v := 0) hx hb dX9_instrument_5 (by decide) ?_
  refine lv_iconst (v := 5) hx hb dX9_instrument_6 (by decide) ?_
  refine g0_v (rS (rest := []) hx hb hml hown hE hP hD (c968_X9_requireRange l g 2 (by decide) (by decide) H.size) (kS_X9_requireRange hE (e636 hE) rfl rfl ⟨(Nat.le_of_ble_eq_true rfl), (Nat.le_of_ble_eq_true rfl)⟩) [] rfl (by decide) rfl hl.1 rfl (lv_room (Nat.le_of_ble_eq_true rfl)) dX9_instrument_7 ⟨(Nat.le_of_ble_eq_true rfl), (Nat.le_of_ble_eq_true rfl)⟩) hP hD hS hA (fun u9 H locs hP hS => ?_)
  refine lv_aload_n hx hb dX9_instrument_10 rfl (lv_at hl 0 rfl) ?_
  refine gf_RX9_12 hx hb hown hE hP 4 rfl rfl dX9_instrument_11 ?_
  refine g_r (wr := [(q28, .inl (g.2 0, 20, .inl f29)), (q20, .inr (8, [w21, w22, w23, .ref q28, w25, w26, w27])), (q1, .inr (11, [.ref q13, w3, w4, w5, w6, w7, w8, w9, w10, w11, w12]))]) (rV (rest := []) hx hb hml hown hE hP hD 3 rfl rfl (c71_X8_current l g q13 q17 q20 w16 f18 (hf19) H.size) (kV_X8_current hE (e290 hE) rfl rfl ⟨(Nat.le_of_ble_eq_true rfl), (Nat.le_of_ble_eq_true rfl)⟩) [2, 3] rfl (by decide) rfl hl.1 rfl (lv_room (Nat.le_of_ble_eq_true rfl)) dX9_instrument_14 ⟨(Nat.le_of_ble_eq_true rfl), (Nat.le_of_ble_eq_true rfl)⟩) hP hD hS hA [2, 3] [0, 1, 4] rfl rfl (by decide) (by decide) (fun u3 H locs hP hD hS => ?_)
  have hP : va_P g.1 vwCl [(q28, .inl (g.2 0, 20, .inl f29)), (q20, .inr (8, [w21, w22, w23, .ref q28, w25, w26, w27])), (q1, .inr (11, [.ref q13, w3, w4, w5, w6, w7, w8, w9, w10, w11, w12])), (q17, .inl (g.2 3, 10, .inr (.inr (.inr (.inr f18))))), (q13, .inr (10, [.ref q17, .int 0, w16]))] H := hP
  have hD : va_D A [(q28, .inl (g.2 0, 20, .inl f29)), (q20, .inr (8, [w21, w22, w23, .ref q28, w25, w26, w27])), (q1, .inr (11, [.ref q13, w3, w4, w5, w6, w7, w8, w9, w10, w11, w12])), (q17, .inl (g.2 3, 10, .inr (.inr (.inr (.inr f18))))), (q13, .inr (10, [.ref q17, .int 0, w16]))] := hD
  refine lv_astore_n (lv' := [(3, .ref q20), (0, .ref q1), (1, .int 2), (2, .int 2)]) hx hb dX9_instrument_17 rfl hl (by decide) rfl (fun ls hl => ?_)
  refine lv_iload_n hx hb dX9_instrument_18 rfl (lv_at hl 3 rfl) ?_
  refine lv_iconst (v := 5) hx hb dX9_instrument_19 (by decide) ?_
  refine lv_icmp_ne (tgt := 29) hx hb dX9_instrument_20 (by decide) (fun _ => ?_) (fun h => absurd h (by decide))
  refine lv_aload_n hx hb dX9_instrument_29 rfl (lv_at hl 0 rfl) ?_
  refine lv_iload_n hx hb dX9_instrument_30 rfl (lv_at hl 2 rfl) ?_
  refine lv_iload_n hx hb dX9_instrument_31 rfl (lv_at hl 3 rfl) ?_
  refine g_i (wr := [(q1, .inr (11, [.ref q13, w3, w4, w5, w6, w7, w8, w9, w10, w11, w12])), (q17, .inl (g.2 3, 10, .inr (.inr (.inr (.inr f18))))), (q13, .inr (10, [.ref q17, .int 0, w16]))]) (rV (rest := []) hx hb hml hown hE hP hD 1 rfl rfl (c1891_X6_instrumentNumber l g q20 q28 w21 w22 w23 w25 w26 w27 f29 (hf30) H.size) (kV_X6_instrumentNumber hE (e1010 hE) rfl rfl ⟨(Nat.le_of_ble_eq_true rfl), (Nat.le_of_ble_eq_true rfl)⟩) [0, 1] rfl (by decide) rfl hl.1 rfl (lv_room (Nat.le_of_ble_eq_true rfl)) dX9_instrument_32 ⟨(Nat.le_of_ble_eq_true rfl), (Nat.le_of_ble_eq_true rfl)⟩) hP hD hS hA [0, 1] [2, 3, 4] rfl rfl (by decide) (by decide) (fun u4 H locs hP hD hS => ?_)
  have hP : va_P g.1 vwCl [(q1, .inr (11, [.ref q13, w3, w4, w5, w6, w7, w8, w9, w10, w11, w12])), (q17, .inl (g.2 3, 10, .inr (.inr (.inr (.inr f18))))), (q13, .inr (10, [.ref q17, .int 0, w16])), (q28, .inl (g.2 0, 20, .inl f29)), (q20, .inr (8, [w21, w22, w23, .ref q28, w25, w26, w27]))] H := hP
  have hD : va_D A [(q1, .inr (11, [.ref q13, w3, w4, w5, w6, w7, w8, w9, w10, w11, w12])), (q17, .inl (g.2 3, 10, .inr (.inr (.inr (.inr f18))))), (q13, .inr (10, [.ref q17, .int 0, w16])), (q28, .inl (g.2 0, 20, .inl f29)), (q20, .inr (8, [w21, w22, w23, .ref q28, w25, w26, w27]))] := hD
  exact x_zret hx hb hr rfl rfl hlocks hP hD hS hAe hsz (Nat.le_of_ble_eq_true rfl) (Nat.le_of_ble_eq_true rfl) (fun _ => 0) [0, 1, 2, 3, 4] (by decide) rfl dX9_instrument_35

set_option maxHeartbeats 4000000 in
set_option maxRecDepth 100000 in
theorem c2203_L_instrument (l : Launch) (g : gG) (hlx : l.stackTraces = false) (q1 q2 q14 q18 q21 q29 : Nat) (w4 w5 w6 w7 w8 w9 w10 w11 w12 w13 w17 w22 w23 w24 w26 w27 w28 : Value) (f19 : Nat → Option Nat) (f30 : Nat → Int32) (f32 : Nat → Int64) (hf20 : f19 0 = some q21) (hf31 : f30 12 = 100) (sz : Nat) : Met l yL_instrument [Cond.codeWith yL_instrument cL_instrument 5 (some .int) [(0, 10, 13, 13), (0, 10, 17, 15)]] ({ frames := 3, cells := 0, slots := 0, locals := 65 } : Room) (va_Pc [.ref q1, .int 2, .int 2, .ref q2] (PZ g sz [(q2, .inl (g.2 1, 1, .inr (.inl f32))), (q29, .inl (g.2 0, 20, .inl f30)), (q21, .inr (8, [w22, w23, w24, .ref q29, w26, w27, w28])), (q18, .inl (g.2 3, 10, .inr (.inr (.inr (.inr f19))))), (q14, .inr (10, [.ref q18, .int 0, w17])), (q1, .inr (11, [.ref q14, w4, w5, w6, w7, w8, w9, w10, w11, w12, w13]))])) (QI g [(q2, .inl (g.2 1, 1, .inr (.inl f32))), (q29, .inl (g.2 0, 20, .inl f30)), (q21, .inr (8, [w22, w23, w24, .ref q29, w26, w27, w28])), (q18, .inl (g.2 3, 10, .inr (.inr (.inr (.inr f19))))), (q14, .inr (10, [.ref q18, .int 0, w17])), (q1, .inr (11, [.ref q14, w4, w5, w6, w7, w8, w9, w10, w11, w12, w13]))] sz 0 (fun _ => [(q2, .inl (g.2 1, 1, .inr (.inl (vp_updL f32 0 100))))])) 0 0 (va_A [(q2, .inl (g.2 1, 1, .inr (.inl f32))), (q29, .inl (g.2 0, 20, .inl f30)), (q21, .inr (8, [w22, w23, w24, .ref q29, w26, w27, w28])), (q18, .inl (g.2 3, 10, .inr (.inr (.inr (.inr f19))))), (q14, .inr (10, [.ref q18, .int 0, w17])), (q1, .inr (11, [.ref q14, w4, w5, w6, w7, w8, w9, w10, w11, w12, w13]))] sz) := by
  refine ofH (by decide) (Nat.le_of_ble_eq_true rfl) rfl ?_
  intro p e s m args below meth c A ls hAe hsz hx hb hml hr hlocks hin hown hE hP hD hA hS hl htb hz
  have hown : s.vm.findClass RL = some m.cls := hown
  refine lv_aload_n hx hb dL_instrument_0 rfl (lv_at hl 3 rfl) ?_
  refine lv_iconst (v := 0) hx hb dL_instrument_1 (by decide) ?_
  refine lv_aload_n hx hb dL_instrument_2 rfl (lv_at hl 0 rfl) ?_
  refine lv_iload_n hx hb dL_instrument_3 rfl (lv_at hl 1 rfl) ?_
  refine lv_iload_n hx hb dL_instrument_4 rfl (lv_at hl 2 rfl) ?_
  refine g_i (wr := [(q2, .inl (g.2 1, 1, .inr (.inl f32)))]) (rV (rest := [.int 0, .ref q2]) hx hb hml hown hE hP hD 5 rfl rfl (c2202_X9_instrument l g q1 q14 q18 q21 q29 w4 w5 w6 w7 w8 w9 w10 w11 w12 w13 w17 w22 w23 w24 w26 w27 w28 f19 f30 (hf20) (hf31) s.heap.size) (kV_X9_instrument hE (e1015 hE) rfl rfl ⟨(Nat.le_of_ble_eq_true rfl), (Nat.le_of_ble_eq_true rfl)⟩) [1, 2, 3, 4, 5] rfl (by decide) rfl hl.1 rfl (lv_room (Nat.le_of_ble_eq_true rfl)) dL_instrument_5 ⟨(Nat.le_of_ble_eq_true rfl), (Nat.le_of_ble_eq_true rfl)⟩) hP hD hS hA [1, 2, 3, 4, 5] [0] rfl rfl (by decide) (by decide) (fun u1 H locs hP hD hS => ?_)
  have hP : va_P g.1 vwCl [(q2, .inl (g.2 1, 1, .inr (.inl f32))), (q1, .inr (11, [.ref q14, w4, w5, w6, w7, w8, w9, w10, w11, w12, w13])), (q18, .inl (g.2 3, 10, .inr (.inr (.inr (.inr f19))))), (q14, .inr (10, [.ref q18, .int 0, w17])), (q29, .inl (g.2 0, 20, .inl f30)), (q21, .inr (8, [w22, w23, w24, .ref q29, w26, w27, w28]))] H := hP
  have hD : va_D A [(q2, .inl (g.2 1, 1, .inr (.inl f32))), (q1, .inr (11, [.ref q14, w4, w5, w6, w7, w8, w9, w10, w11, w12, w13])), (q18, .inl (g.2 3, 10, .inr (.inr (.inr (.inr f19))))), (q14, .inr (10, [.ref q18, .int 0, w17])), (q29, .inl (g.2 0, 20, .inl f30)), (q21, .inr (8, [w22, w23, w24, .ref q29, w26, w27, w28]))] := hD
  refine lv_i2l (v := 100) hx hb dL_instrument_8 (by decide) ?_
  refine x_last (ws' := [(q2, .inl (g.2 1, 1, .inr (.inl (vp_updL f32 0 100)))), (q1, .inr (11, [.ref q14, w4, w5, w6, w7, w8, w9, w10, w11, w12, w13])), (q18, .inl (g.2 3, 10, .inr (.inr (.inr (.inr f19))))), (q14, .inr (10, [.ref q18, .int 0, w17])), (q29, .inl (g.2 0, 20, .inl f30)), (q21, .inr (8, [w22, w23, w24, .ref q29, w26, w27, w28]))]) hx hb hE hP hD hS 0 rfl 0 (x_in (by decide)) (by decide) dL_instrument_9 rfl (fun H locs hP hD hS => ?_)
  refine lv_goto (tgt := 21) hx hb dL_instrument_10 (by decide) ?_
  refine lv_iconst (v := 0) hx hb dL_instrument_21 (by decide) ?_
  exact x_zret hx hb hr rfl rfl hlocks hP hD hS hAe hsz (Nat.le_of_ble_eq_true rfl) (Nat.le_of_ble_eq_true rfl) (fun _ => 0) [0] (by decide) rfl dL_instrument_22

set_option maxHeartbeats 4000000 in
set_option maxRecDepth 100000 in
theorem c2204_X10_instrument (l : Launch) (g : gG) (q1 q39 : Nat) (w3 w4 w5 w6 w7 w8 w9 w10 w11 w12 w13 w14 w15 w16 w17 w18 w19 w20 w21 w22 w23 w24 w25 w26 w27 w28 w29 w30 w31 w32 w33 w34 w35 w36 w37 w38 : Value) (f40 : Nat → Int32) (hf41 : f40 392 = 0) (hf42 : f40 486 = 100) (sz : Nat) : Met l yX10_instrument [Cond.code yX10_instrument cX10_instrument 5 (some .int)] ({ frames := 2, cells := 0, slots := 0, locals := 42 } : Room) (va_Pc [.ref q1, .int 2, .int 2] (PX g sz [(q39, .inl (g.2 0, 497, .inl f40)), (q1, .inr (12, [.ref q39, w3, w4, w5, w6, w7, w8, w9, w10, w11, w12, w13, w14, w15, w16, w17, w18, w19, w20, w21, w22, w23, w24, w25, w26, w27, w28, w29, w30, w31, w32, w33, w34, w35, w36, w37, w38]))])) (QI g [(q39, .inl (g.2 0, 497, .inl f40)), (q1, .inr (12, [.ref q39, w3, w4, w5, w6, w7, w8, w9, w10, w11, w12, w13, w14, w15, w16, w17, w18, w19, w20, w21, w22, w23, w24, w25, w26, w27, w28, w29, w30, w31, w32, w33, w34, w35, w36, w37, w38]))] sz 100 (fun _ => [(q1, .inr (12, [.ref q39, w3, w4, w5, w6, w7, .int 0, w9, w10, w11, w12, w13, w14, w15, w16, w17, w18, w19, w20, w21, w22, w23, w24, w25, w26, w27, w28, w29, w30, w31, w32, w33, w34, w35, w36, w37, w38]))])) 0 0 (va_A [(q39, .inl (g.2 0, 497, .inl f40)), (q1, .inr (12, [.ref q39, w3, w4, w5, w6, w7, w8, w9, w10, w11, w12, w13, w14, w15, w16, w17, w18, w19, w20, w21, w22, w23, w24, w25, w26, w27, w28, w29, w30, w31, w32, w33, w34, w35, w36, w37, w38]))] sz) := by
  refine ofN (by decide) (Nat.le_of_ble_eq_true rfl) rfl ?_
  intro p e s m args below meth c A ls hAe hsz hx hb hml hr hlocks hin hown hE hP hD hA hS hl
  have hown : s.vm.findClass RX10 = some m.cls := hown
  refine lv_aload_n hx hb dX10_instrument_0 rfl (lv_at hl 0 rfl) ?_
  refine lv_iload_n hx hb dX10_instrument_1 rfl (lv_at hl 1 rfl) ?_
  refine g0_i (rS (rest := [.ref q1]) hx hb hml hown hE hP hD (c1857_X10_isInstrument l g 2 (by decide) (by decide) s.heap.size) (kS_X10_isInstrument hE (e1645 hE) rfl rfl ⟨(Nat.le_of_ble_eq_true rfl), (Nat.le_of_ble_eq_true rfl)⟩) [] rfl (by decide) rfl hl.1 rfl (lv_room (Nat.le_of_ble_eq_true rfl)) dX10_instrument_2 ⟨(Nat.le_of_ble_eq_true rfl), (Nat.le_of_ble_eq_true rfl)⟩) hP hD hS hA (fun u9 H locs hP hS => ?_)
  refine lv_if_ne (tgt := 12) hx hb dX10_instrument_5 (by decide) (fun _ => ?_) (fun h => absurd h (by decide))
  refine lv_iload_n hx hb dX10_instrument_12 rfl (lv_at hl 2 rfl) ?_
  refine lv_iconst (v := 0) hx hb dX10_instrument_13 (by decide) ?_
  refine lv_iconst (v := 5) hx hb dX10_instrument_14 (by decide) ?_
  refine g0_i (rS (rest := [.ref q1]) hx hb hml hown hE hP hD (c971_X10_in l g 2 (by decide) (by decide) H.size) (kS_X10_in hE (e1431 hE) rfl rfl ⟨(Nat.le_of_ble_eq_true rfl), (Nat.le_of_ble_eq_true rfl)⟩) [] rfl (by decide) rfl hl.1 rfl (lv_room (Nat.le_of_ble_eq_true rfl)) dX10_instrument_15 ⟨(Nat.le_of_ble_eq_true rfl), (Nat.le_of_ble_eq_true rfl)⟩) hP hD hS hA (fun u9 H locs hP hS => ?_)
  refine lv_if_ne (tgt := 25) hx hb dX10_instrument_18 (by decide) (fun _ => ?_) (fun h => absurd h (by decide))
  refine lv_iconst (v := 0) hx hb dX10_instrument_25 (by decide) ?_
  refine pf_RX10_86 (ws' := [(q39, .inl (g.2 0, 497, .inl f40)), (q1, .inr (12, [.ref q39, w3, w4, w5, w6, w7, .int 0, w9, w10, w11, w12, w13, w14, w15, w16, w17, w18, w19, w20, w21, w22, w23, w24, w25, w26, w27, w28, w29, w30, w31, w32, w33, w34, w35, w36, w37, w38]))]) hx hb hown hE hP hD hS 1 rfl rfl rfl (Nat.le_of_ble_eq_true rfl) dX10_instrument_26 rfl (fun H locs hP hD hS => ?_)
  refine lv_aload_n hx hb dX10_instrument_29 rfl (lv_at hl 0 rfl) ?_
  refine gf_RX10_86 hx hb hown hE hP 1 rfl rfl dX10_instrument_30 ?_
  refine lv_if_le (tgt := 38) hx hb dX10_instrument_33 (by decide) (fun _ => ?_) (fun h => absurd (by decide) h)
  refine lv_iconst (v := 0) hx hb dX10_instrument_38 (by decide) ?_
  refine lv_istore_n (lv' := [(3, .int 0), (0, .ref q1), (1, .int 2), (2, .int 2)]) hx hb dX10_instrument_39 rfl hl (by decide) rfl (fun ls hl => ?_)
  refine lv_iconst (v := 0) hx hb dX10_instrument_40 (by decide) ?_
  refine lv_istore (lv' := [(4, .int 0), (3, .int 0), (0, .ref q1), (1, .int 2), (2, .int 2)]) hx hb dX10_instrument_41 hl (by decide) rfl (fun ls hl => ?_)
  refine lv_iload hx hb dX10_instrument_43 (lv_at hl 0 rfl) ?_
  refine lv_aload_n hx hb dX10_instrument_45 rfl (lv_at hl 2 rfl) ?_
  refine gf_RX10_9 hx hb hown hE hP 1 rfl rfl dX10_instrument_46 ?_
  refine lv_sipush (v := 392) hx hb dX10_instrument_49 (by decide) ?_
  refine x_iald (v := 0) hx hb hE hP 0 rfl 392 (x_in (by decide)) (by decide) hf41 dX10_instrument_52 ?_
  refine lv_icmp_ge (tgt := 81) hx hb dX10_instrument_53 (by decide) (fun _ => ?_) (fun h => absurd (by decide) h)
  refine lv_iload_n hx hb dX10_instrument_81 rfl (lv_at hl 4 rfl) ?_
  refine lv_iconst (v := 5) hx hb dX10_instrument_82 (by decide) ?_
  refine lv_icmp_ne (tgt := 90) hx hb dX10_instrument_83 (by decide) (fun _ => ?_) (fun h => absurd h (by decide))
  refine lv_aload_n hx hb dX10_instrument_90 rfl (lv_at hl 2 rfl) ?_
  refine gf_RX10_9 hx hb hown hE hP 1 rfl rfl dX10_instrument_91 ?_
  refine lv_sipush (v := 474) hx hb dX10_instrument_94 (by decide) ?_
  refine lv_iconst (v := 5) hx hb dX10_instrument_97 (by decide) ?_
  refine lv_iload_n hx hb dX10_instrument_98 rfl (lv_at hl 3 rfl) ?_
  refine x_imul (v := 10) hx hb dX10_instrument_99 (by decide) ?_
  refine x_iadd (v := 484) hx hb dX10_instrument_100 (by decide) ?_
  refine lv_iload_n hx hb dX10_instrument_101 rfl (lv_at hl 4 rfl) ?_
  refine x_iadd (v := 486) hx hb dX10_instrument_102 (by decide) ?_
  refine x_iald (v := 100) hx hb hE hP 0 rfl 486 (x_in (by decide)) (by decide) hf42 dX10_instrument_103 ?_
  exact x_zret hx hb hr rfl rfl hlocks hP hD hS hAe hsz (Nat.le_of_ble_eq_true rfl) (Nat.le_of_ble_eq_true rfl) (fun _ => 0) [1] (by decide) rfl dX10_instrument_104

set_option maxHeartbeats 4000000 in
set_option maxRecDepth 100000 in
theorem c2205_X9_instrument (l : Launch) (g : gG) (q1 q13 q17 q20 q28 : Nat) (w3 w4 w5 w6 w7 w8 w9 w10 w11 w12 w16 w21 w22 w23 w25 w26 w27 : Value) (f18 : Nat → Option Nat) (f29 : Nat → Int32) (hf19 : f18 0 = some q20) (hf30 : f29 13 = 0) (sz : Nat) : Met l yX9_instrument [Cond.code yX9_instrument cX9_instrument 4 (some .int)] ({ frames := 2, cells := 0, slots := 0, locals := 42 } : Room) (va_Pc [.ref q1, .int 2, .int 3] (PX g sz [(q28, .inl (g.2 0, 20, .inl f29)), (q20, .inr (8, [w21, w22, w23, .ref q28, w25, w26, w27])), (q17, .inl (g.2 3, 10, .inr (.inr (.inr (.inr f18))))), (q13, .inr (10, [.ref q17, .int 0, w16])), (q1, .inr (11, [.ref q13, w3, w4, w5, w6, w7, w8, w9, w10, w11, w12]))])) (QI g [(q28, .inl (g.2 0, 20, .inl f29)), (q20, .inr (8, [w21, w22, w23, .ref q28, w25, w26, w27])), (q17, .inl (g.2 3, 10, .inr (.inr (.inr (.inr f18))))), (q13, .inr (10, [.ref q17, .int 0, w16])), (q1, .inr (11, [.ref q13, w3, w4, w5, w6, w7, w8, w9, w10, w11, w12]))] sz 0 (fun _ => [(q1, .inr (11, [.ref q13, w3, w4, w5, w6, w7, w8, w9, w10, w11, w12])), (q17, .inl (g.2 3, 10, .inr (.inr (.inr (.inr f18))))), (q13, .inr (10, [.ref q17, .int 0, w16])), (q28, .inl (g.2 0, 20, .inl f29)), (q20, .inr (8, [w21, w22, w23, .ref q28, w25, w26, w27]))])) 0 0 (va_A [(q28, .inl (g.2 0, 20, .inl f29)), (q20, .inr (8, [w21, w22, w23, .ref q28, w25, w26, w27])), (q17, .inl (g.2 3, 10, .inr (.inr (.inr (.inr f18))))), (q13, .inr (10, [.ref q17, .int 0, w16])), (q1, .inr (11, [.ref q13, w3, w4, w5, w6, w7, w8, w9, w10, w11, w12]))] sz) := by
  refine ofN (by decide) (Nat.le_of_ble_eq_true rfl) rfl ?_
  intro p e s m args below meth c A ls hAe hsz hx hb hml hr hlocks hin hown hE hP hD hA hS hl
  have hown : s.vm.findClass RX9 = some m.cls := hown
  refine lv_iload_n hx hb dX9_instrument_0 rfl (lv_at hl 1 rfl) ?_
  refine g0_v (rS (rest := []) hx hb hml hown hE hP hD (c1854_X9_requireInstrument l g 2 (by decide) (by decide) s.heap.size) (kS_X9_requireInstrument hE (e991 hE) rfl rfl ⟨(Nat.le_of_ble_eq_true rfl), (Nat.le_of_ble_eq_true rfl)⟩) [] rfl (by decide) rfl hl.1 rfl (lv_room (Nat.le_of_ble_eq_true rfl)) dX9_instrument_1 ⟨(Nat.le_of_ble_eq_true rfl), (Nat.le_of_ble_eq_true rfl)⟩) hP hD hS hA (fun u9 H locs hP hS => ?_)
  refine lv_iload_n hx hb dX9_instrument_4 rfl (lv_at hl 2 rfl) ?_
  refine lv_iconst (v := 0) hx hb dX9_instrument_5 (by decide) ?_
  refine lv_iconst (v := 5) hx hb dX9_instrument_6 (by decide) ?_
  refine g0_v (rS (rest := []) hx hb hml hown hE hP hD (c968_X9_requireRange l g 3 (by decide) (by decide) H.size) (kS_X9_requireRange hE (e636 hE) rfl rfl ⟨(Nat.le_of_ble_eq_true rfl), (Nat.le_of_ble_eq_true rfl)⟩) [] rfl (by decide) rfl hl.1 rfl (lv_room (Nat.le_of_ble_eq_true rfl)) dX9_instrument_7 ⟨(Nat.le_of_ble_eq_true rfl), (Nat.le_of_ble_eq_true rfl)⟩) hP hD hS hA (fun u9 H locs hP hS => ?_)
  refine lv_aload_n hx hb dX9_instrument_10 rfl (lv_at hl 0 rfl) ?_
  refine gf_RX9_12 hx hb hown hE hP 4 rfl rfl dX9_instrument_11 ?_
  refine g_r (wr := [(q28, .inl (g.2 0, 20, .inl f29)), (q20, .inr (8, [w21, w22, w23, .ref q28, w25, w26, w27])), (q1, .inr (11, [.ref q13, w3, w4, w5, w6, w7, w8, w9, w10, w11, w12]))]) (rV (rest := []) hx hb hml hown hE hP hD 3 rfl rfl (c71_X8_current l g q13 q17 q20 w16 f18 (hf19) H.size) (kV_X8_current hE (e290 hE) rfl rfl ⟨(Nat.le_of_ble_eq_true rfl), (Nat.le_of_ble_eq_true rfl)⟩) [2, 3] rfl (by decide) rfl hl.1 rfl (lv_room (Nat.le_of_ble_eq_true rfl)) dX9_instrument_14 ⟨(Nat.le_of_ble_eq_true rfl), (Nat.le_of_ble_eq_true rfl)⟩) hP hD hS hA [2, 3] [0, 1, 4] rfl rfl (by decide) (by decide) (fun u3 H locs hP hD hS => ?_)
  have hP : va_P g.1 vwCl [(q28, .inl (g.2 0, 20, .inl f29)), (q20, .inr (8, [w21, w22, w23, .ref q28, w25, w26, w27])), (q1, .inr (11, [.ref q13, w3, w4, w5, w6, w7, w8, w9, w10, w11, w12])), (q17, .inl (g.2 3, 10, .inr (.inr (.inr (.inr f18))))), (q13, .inr (10, [.ref q17, .int 0, w16]))] H := hP
  have hD : va_D A [(q28, .inl (g.2 0, 20, .inl f29)), (q20, .inr (8, [w21, w22, w23, .ref q28, w25, w26, w27])), (q1, .inr (11, [.ref q13, w3, w4, w5, w6, w7, w8, w9, w10, w11, w12])), (q17, .inl (g.2 3, 10, .inr (.inr (.inr (.inr f18))))), (q13, .inr (10, [.ref q17, .int 0, w16]))] := hD
  refine lv_astore_n (lv' := [(3, .ref q20), (0, .ref q1), (1, .int 2), (2, .int 3)]) hx hb dX9_instrument_17 rfl hl (by decide) rfl (fun ls hl => ?_)
  refine lv_iload_n hx hb dX9_instrument_18 rfl (lv_at hl 3 rfl) ?_
  refine lv_iconst (v := 5) hx hb dX9_instrument_19 (by decide) ?_
  refine lv_icmp_ne (tgt := 29) hx hb dX9_instrument_20 (by decide) (fun _ => ?_) (fun h => absurd h (by decide))
  refine lv_aload_n hx hb dX9_instrument_29 rfl (lv_at hl 0 rfl) ?_
  refine lv_iload_n hx hb dX9_instrument_30 rfl (lv_at hl 2 rfl) ?_
  refine lv_iload_n hx hb dX9_instrument_31 rfl (lv_at hl 3 rfl) ?_
  refine g_i (wr := [(q1, .inr (11, [.ref q13, w3, w4, w5, w6, w7, w8, w9, w10, w11, w12])), (q17, .inl (g.2 3, 10, .inr (.inr (.inr (.inr f18))))), (q13, .inr (10, [.ref q17, .int 0, w16]))]) (rV (rest := []) hx hb hml hown hE hP hD 1 rfl rfl (c1892_X6_instrumentNumber l g q20 q28 w21 w22 w23 w25 w26 w27 f29 (hf30) H.size) (kV_X6_instrumentNumber hE (e1010 hE) rfl rfl ⟨(Nat.le_of_ble_eq_true rfl), (Nat.le_of_ble_eq_true rfl)⟩) [0, 1] rfl (by decide) rfl hl.1 rfl (lv_room (Nat.le_of_ble_eq_true rfl)) dX9_instrument_32 ⟨(Nat.le_of_ble_eq_true rfl), (Nat.le_of_ble_eq_true rfl)⟩) hP hD hS hA [0, 1] [2, 3, 4] rfl rfl (by decide) (by decide) (fun u4 H locs hP hD hS => ?_)
  have hP : va_P g.1 vwCl [(q1, .inr (11, [.ref q13, w3, w4, w5, w6, w7, w8, w9, w10, w11, w12])), (q17, .inl (g.2 3, 10, .inr (.inr (.inr (.inr f18))))), (q13, .inr (10, [.ref q17, .int 0, w16])), (q28, .inl (g.2 0, 20, .inl f29)), (q20, .inr (8, [w21, w22, w23, .ref q28, w25, w26, w27]))] H := hP
  have hD : va_D A [(q1, .inr (11, [.ref q13, w3, w4, w5, w6, w7, w8, w9, w10, w11, w12])), (q17, .inl (g.2 3, 10, .inr (.inr (.inr (.inr f18))))), (q13, .inr (10, [.ref q17, .int 0, w16])), (q28, .inl (g.2 0, 20, .inl f29)), (q20, .inr (8, [w21, w22, w23, .ref q28, w25, w26, w27]))] := hD
  exact x_zret hx hb hr rfl rfl hlocks hP hD hS hAe hsz (Nat.le_of_ble_eq_true rfl) (Nat.le_of_ble_eq_true rfl) (fun _ => 0) [0, 1, 2, 3, 4] (by decide) rfl dX9_instrument_35

set_option maxHeartbeats 4000000 in
set_option maxRecDepth 100000 in
theorem c2206_L_instrument (l : Launch) (g : gG) (hlx : l.stackTraces = false) (q1 q2 q14 q18 q21 q29 : Nat) (w4 w5 w6 w7 w8 w9 w10 w11 w12 w13 w17 w22 w23 w24 w26 w27 w28 : Value) (f19 : Nat → Option Nat) (f30 : Nat → Int32) (f32 : Nat → Int64) (hf20 : f19 0 = some q21) (hf31 : f30 13 = 0) (sz : Nat) : Met l yL_instrument [Cond.codeWith yL_instrument cL_instrument 5 (some .int) [(0, 10, 13, 13), (0, 10, 17, 15)]] ({ frames := 3, cells := 0, slots := 0, locals := 65 } : Room) (va_Pc [.ref q1, .int 2, .int 3, .ref q2] (PZ g sz [(q2, .inl (g.2 1, 1, .inr (.inl f32))), (q29, .inl (g.2 0, 20, .inl f30)), (q21, .inr (8, [w22, w23, w24, .ref q29, w26, w27, w28])), (q18, .inl (g.2 3, 10, .inr (.inr (.inr (.inr f19))))), (q14, .inr (10, [.ref q18, .int 0, w17])), (q1, .inr (11, [.ref q14, w4, w5, w6, w7, w8, w9, w10, w11, w12, w13]))])) (QI g [(q2, .inl (g.2 1, 1, .inr (.inl f32))), (q29, .inl (g.2 0, 20, .inl f30)), (q21, .inr (8, [w22, w23, w24, .ref q29, w26, w27, w28])), (q18, .inl (g.2 3, 10, .inr (.inr (.inr (.inr f19))))), (q14, .inr (10, [.ref q18, .int 0, w17])), (q1, .inr (11, [.ref q14, w4, w5, w6, w7, w8, w9, w10, w11, w12, w13]))] sz 0 (fun _ => [(q2, .inl (g.2 1, 1, .inr (.inl (vp_updL f32 0 0))))])) 0 0 (va_A [(q2, .inl (g.2 1, 1, .inr (.inl f32))), (q29, .inl (g.2 0, 20, .inl f30)), (q21, .inr (8, [w22, w23, w24, .ref q29, w26, w27, w28])), (q18, .inl (g.2 3, 10, .inr (.inr (.inr (.inr f19))))), (q14, .inr (10, [.ref q18, .int 0, w17])), (q1, .inr (11, [.ref q14, w4, w5, w6, w7, w8, w9, w10, w11, w12, w13]))] sz) := by
  refine ofH (by decide) (Nat.le_of_ble_eq_true rfl) rfl ?_
  intro p e s m args below meth c A ls hAe hsz hx hb hml hr hlocks hin hown hE hP hD hA hS hl htb hz
  have hown : s.vm.findClass RL = some m.cls := hown
  refine lv_aload_n hx hb dL_instrument_0 rfl (lv_at hl 3 rfl) ?_
  refine lv_iconst (v := 0) hx hb dL_instrument_1 (by decide) ?_
  refine lv_aload_n hx hb dL_instrument_2 rfl (lv_at hl 0 rfl) ?_
  refine lv_iload_n hx hb dL_instrument_3 rfl (lv_at hl 1 rfl) ?_
  refine lv_iload_n hx hb dL_instrument_4 rfl (lv_at hl 2 rfl) ?_
  refine g_i (wr := [(q2, .inl (g.2 1, 1, .inr (.inl f32)))]) (rV (rest := [.int 0, .ref q2]) hx hb hml hown hE hP hD 5 rfl rfl (c2205_X9_instrument l g q1 q14 q18 q21 q29 w4 w5 w6 w7 w8 w9 w10 w11 w12 w13 w17 w22 w23 w24 w26 w27 w28 f19 f30 (hf20) (hf31) s.heap.size) (kV_X9_instrument hE (e1015 hE) rfl rfl ⟨(Nat.le_of_ble_eq_true rfl), (Nat.le_of_ble_eq_true rfl)⟩) [1, 2, 3, 4, 5] rfl (by decide) rfl hl.1 rfl (lv_room (Nat.le_of_ble_eq_true rfl)) dL_instrument_5 ⟨(Nat.le_of_ble_eq_true rfl), (Nat.le_of_ble_eq_true rfl)⟩) hP hD hS hA [1, 2, 3, 4, 5] [0] rfl rfl (by decide) (by decide) (fun u1 H locs hP hD hS => ?_)
  have hP : va_P g.1 vwCl [(q2, .inl (g.2 1, 1, .inr (.inl f32))), (q1, .inr (11, [.ref q14, w4, w5, w6, w7, w8, w9, w10, w11, w12, w13])), (q18, .inl (g.2 3, 10, .inr (.inr (.inr (.inr f19))))), (q14, .inr (10, [.ref q18, .int 0, w17])), (q29, .inl (g.2 0, 20, .inl f30)), (q21, .inr (8, [w22, w23, w24, .ref q29, w26, w27, w28]))] H := hP
  have hD : va_D A [(q2, .inl (g.2 1, 1, .inr (.inl f32))), (q1, .inr (11, [.ref q14, w4, w5, w6, w7, w8, w9, w10, w11, w12, w13])), (q18, .inl (g.2 3, 10, .inr (.inr (.inr (.inr f19))))), (q14, .inr (10, [.ref q18, .int 0, w17])), (q29, .inl (g.2 0, 20, .inl f30)), (q21, .inr (8, [w22, w23, w24, .ref q29, w26, w27, w28]))] := hD
  refine lv_i2l (v := 0) hx hb dL_instrument_8 (by decide) ?_
  refine x_last (ws' := [(q2, .inl (g.2 1, 1, .inr (.inl (vp_updL f32 0 0)))), (q1, .inr (11, [.ref q14, w4, w5, w6, w7, w8, w9, w10, w11, w12, w13])), (q18, .inl (g.2 3, 10, .inr (.inr (.inr (.inr f19))))), (q14, .inr (10, [.ref q18, .int 0, w17])), (q29, .inl (g.2 0, 20, .inl f30)), (q21, .inr (8, [w22, w23, w24, .ref q29, w26, w27, w28]))]) hx hb hE hP hD hS 0 rfl 0 (x_in (by decide)) (by decide) dL_instrument_9 rfl (fun H locs hP hD hS => ?_)
  refine lv_goto (tgt := 21) hx hb dL_instrument_10 (by decide) ?_
  refine lv_iconst (v := 0) hx hb dL_instrument_21 (by decide) ?_
  exact x_zret hx hb hr rfl rfl hlocks hP hD hS hAe hsz (Nat.le_of_ble_eq_true rfl) (Nat.le_of_ble_eq_true rfl) (fun _ => 0) [0] (by decide) rfl dL_instrument_22

set_option maxHeartbeats 4000000 in
set_option maxRecDepth 100000 in
theorem c2207_X10_instrument (l : Launch) (g : gG) (q1 q39 : Nat) (w3 w4 w5 w6 w7 w8 w9 w10 w11 w12 w13 w14 w15 w16 w17 w18 w19 w20 w21 w22 w23 w24 w25 w26 w27 w28 w29 w30 w31 w32 w33 w34 w35 w36 w37 w38 : Value) (f40 : Nat → Int32) (hf41 : f40 392 = 0) (hf42 : f40 487 = 0) (sz : Nat) : Met l yX10_instrument [Cond.code yX10_instrument cX10_instrument 5 (some .int)] ({ frames := 2, cells := 0, slots := 0, locals := 42 } : Room) (va_Pc [.ref q1, .int 2, .int 3] (PX g sz [(q39, .inl (g.2 0, 497, .inl f40)), (q1, .inr (12, [.ref q39, w3, w4, w5, w6, w7, w8, w9, w10, w11, w12, w13, w14, w15, w16, w17, w18, w19, w20, w21, w22, w23, w24, w25, w26, w27, w28, w29, w30, w31, w32, w33, w34, w35, w36, w37, w38]))])) (QI g [(q39, .inl (g.2 0, 497, .inl f40)), (q1, .inr (12, [.ref q39, w3, w4, w5, w6, w7, w8, w9, w10, w11, w12, w13, w14, w15, w16, w17, w18, w19, w20, w21, w22, w23, w24, w25, w26, w27, w28, w29, w30, w31, w32, w33, w34, w35, w36, w37, w38]))] sz 0 (fun _ => [(q1, .inr (12, [.ref q39, w3, w4, w5, w6, w7, .int 0, w9, w10, w11, w12, w13, w14, w15, w16, w17, w18, w19, w20, w21, w22, w23, w24, w25, w26, w27, w28, w29, w30, w31, w32, w33, w34, w35, w36, w37, w38]))])) 0 0 (va_A [(q39, .inl (g.2 0, 497, .inl f40)), (q1, .inr (12, [.ref q39, w3, w4, w5, w6, w7, w8, w9, w10, w11, w12, w13, w14, w15, w16, w17, w18, w19, w20, w21, w22, w23, w24, w25, w26, w27, w28, w29, w30, w31, w32, w33, w34, w35, w36, w37, w38]))] sz) := by
  refine ofN (by decide) (Nat.le_of_ble_eq_true rfl) rfl ?_
  intro p e s m args below meth c A ls hAe hsz hx hb hml hr hlocks hin hown hE hP hD hA hS hl
  have hown : s.vm.findClass RX10 = some m.cls := hown
  refine lv_aload_n hx hb dX10_instrument_0 rfl (lv_at hl 0 rfl) ?_
  refine lv_iload_n hx hb dX10_instrument_1 rfl (lv_at hl 1 rfl) ?_
  refine g0_i (rS (rest := [.ref q1]) hx hb hml hown hE hP hD (c1857_X10_isInstrument l g 2 (by decide) (by decide) s.heap.size) (kS_X10_isInstrument hE (e1645 hE) rfl rfl ⟨(Nat.le_of_ble_eq_true rfl), (Nat.le_of_ble_eq_true rfl)⟩) [] rfl (by decide) rfl hl.1 rfl (lv_room (Nat.le_of_ble_eq_true rfl)) dX10_instrument_2 ⟨(Nat.le_of_ble_eq_true rfl), (Nat.le_of_ble_eq_true rfl)⟩) hP hD hS hA (fun u9 H locs hP hS => ?_)
  refine lv_if_ne (tgt := 12) hx hb dX10_instrument_5 (by decide) (fun _ => ?_) (fun h => absurd h (by decide))
  refine lv_iload_n hx hb dX10_instrument_12 rfl (lv_at hl 2 rfl) ?_
  refine lv_iconst (v := 0) hx hb dX10_instrument_13 (by decide) ?_
  refine lv_iconst (v := 5) hx hb dX10_instrument_14 (by decide) ?_
  refine g0_i (rS (rest := [.ref q1]) hx hb hml hown hE hP hD (c971_X10_in l g 3 (by decide) (by decide) H.size) (kS_X10_in hE (e1431 hE) rfl rfl ⟨(Nat.le_of_ble_eq_true rfl), (Nat.le_of_ble_eq_true rfl)⟩) [] rfl (by decide) rfl hl.1 rfl (lv_room (Nat.le_of_ble_eq_true rfl)) dX10_instrument_15 ⟨(Nat.le_of_ble_eq_true rfl), (Nat.le_of_ble_eq_true rfl)⟩) hP hD hS hA (fun u9 H locs hP hS => ?_)
  refine lv_if_ne (tgt := 25) hx hb dX10_instrument_18 (by decide) (fun _ => ?_) (fun h => absurd h (by decide))
  refine lv_iconst (v := 0) hx hb dX10_instrument_25 (by decide) ?_
  refine pf_RX10_86 (ws' := [(q39, .inl (g.2 0, 497, .inl f40)), (q1, .inr (12, [.ref q39, w3, w4, w5, w6, w7, .int 0, w9, w10, w11, w12, w13, w14, w15, w16, w17, w18, w19, w20, w21, w22, w23, w24, w25, w26, w27, w28, w29, w30, w31, w32, w33, w34, w35, w36, w37, w38]))]) hx hb hown hE hP hD hS 1 rfl rfl rfl (Nat.le_of_ble_eq_true rfl) dX10_instrument_26 rfl (fun H locs hP hD hS => ?_)
  refine lv_aload_n hx hb dX10_instrument_29 rfl (lv_at hl 0 rfl) ?_
  refine gf_RX10_86 hx hb hown hE hP 1 rfl rfl dX10_instrument_30 ?_
  refine lv_if_le (tgt := 38) hx hb dX10_instrument_33 (by decide) (fun _ => ?_) (fun h => absurd (by decide) h)
  refine lv_iconst (v := 0) hx hb dX10_instrument_38 (by decide) ?_
  refine lv_istore_n (lv' := [(3, .int 0), (0, .ref q1), (1, .int 2), (2, .int 3)]) hx hb dX10_instrument_39 rfl hl (by decide) rfl (fun ls hl => ?_)
  refine lv_iconst (v := 0) hx hb dX10_instrument_40 (by decide) ?_
  refine lv_istore (lv' := [(4, .int 0), (3, .int 0), (0, .ref q1), (1, .int 2), (2, .int 3)]) hx hb dX10_instrument_41 hl (by decide) rfl (fun ls hl => ?_)
  refine lv_iload hx hb dX10_instrument_43 (lv_at hl 0 rfl) ?_
  refine lv_aload_n hx hb dX10_instrument_45 rfl (lv_at hl 2 rfl) ?_
  refine gf_RX10_9 hx hb hown hE hP 1 rfl rfl dX10_instrument_46 ?_
  refine lv_sipush (v := 392) hx hb dX10_instrument_49 (by decide) ?_
  refine x_iald (v := 0) hx hb hE hP 0 rfl 392 (x_in (by decide)) (by decide) hf41 dX10_instrument_52 ?_
  refine lv_icmp_ge (tgt := 81) hx hb dX10_instrument_53 (by decide) (fun _ => ?_) (fun h => absurd (by decide) h)
  refine lv_iload_n hx hb dX10_instrument_81 rfl (lv_at hl 4 rfl) ?_
  refine lv_iconst (v := 5) hx hb dX10_instrument_82 (by decide) ?_
  refine lv_icmp_ne (tgt := 90) hx hb dX10_instrument_83 (by decide) (fun _ => ?_) (fun h => absurd h (by decide))
  refine lv_aload_n hx hb dX10_instrument_90 rfl (lv_at hl 2 rfl) ?_
  refine gf_RX10_9 hx hb hown hE hP 1 rfl rfl dX10_instrument_91 ?_
  refine lv_sipush (v := 474) hx hb dX10_instrument_94 (by decide) ?_
  refine lv_iconst (v := 5) hx hb dX10_instrument_97 (by decide) ?_
  refine lv_iload_n hx hb dX10_instrument_98 rfl (lv_at hl 3 rfl) ?_
  refine x_imul (v := 10) hx hb dX10_instrument_99 (by decide) ?_
  refine x_iadd (v := 484) hx hb dX10_instrument_100 (by decide) ?_
  refine lv_iload_n hx hb dX10_instrument_101 rfl (lv_at hl 4 rfl) ?_
  refine x_iadd (v := 487) hx hb dX10_instrument_102 (by decide) ?_
  refine x_iald (v := 0) hx hb hE hP 0 rfl 487 (x_in (by decide)) (by decide) hf42 dX10_instrument_103 ?_
  exact x_zret hx hb hr rfl rfl hlocks hP hD hS hAe hsz (Nat.le_of_ble_eq_true rfl) (Nat.le_of_ble_eq_true rfl) (fun _ => 0) [1] (by decide) rfl dX10_instrument_104

set_option maxHeartbeats 4000000 in
set_option maxRecDepth 100000 in
theorem c2208_X9_instrument (l : Launch) (g : gG) (q1 q13 q17 q20 q28 : Nat) (w3 w4 w5 w6 w7 w8 w9 w10 w11 w12 w16 w21 w22 w23 w25 w26 w27 : Value) (f18 : Nat → Option Nat) (f29 : Nat → Int32) (hf19 : f18 0 = some q20) (hf30 : f29 14 = 5) (sz : Nat) : Met l yX9_instrument [Cond.code yX9_instrument cX9_instrument 4 (some .int)] ({ frames := 2, cells := 0, slots := 0, locals := 42 } : Room) (va_Pc [.ref q1, .int 2, .int 4] (PX g sz [(q28, .inl (g.2 0, 20, .inl f29)), (q20, .inr (8, [w21, w22, w23, .ref q28, w25, w26, w27])), (q17, .inl (g.2 3, 10, .inr (.inr (.inr (.inr f18))))), (q13, .inr (10, [.ref q17, .int 0, w16])), (q1, .inr (11, [.ref q13, w3, w4, w5, w6, w7, w8, w9, w10, w11, w12]))])) (QI g [(q28, .inl (g.2 0, 20, .inl f29)), (q20, .inr (8, [w21, w22, w23, .ref q28, w25, w26, w27])), (q17, .inl (g.2 3, 10, .inr (.inr (.inr (.inr f18))))), (q13, .inr (10, [.ref q17, .int 0, w16])), (q1, .inr (11, [.ref q13, w3, w4, w5, w6, w7, w8, w9, w10, w11, w12]))] sz 5 (fun _ => [(q1, .inr (11, [.ref q13, w3, w4, w5, w6, w7, w8, w9, w10, w11, w12])), (q17, .inl (g.2 3, 10, .inr (.inr (.inr (.inr f18))))), (q13, .inr (10, [.ref q17, .int 0, w16])), (q28, .inl (g.2 0, 20, .inl f29)), (q20, .inr (8, [w21, w22, w23, .ref q28, w25, w26, w27]))])) 0 0 (va_A [(q28, .inl (g.2 0, 20, .inl f29)), (q20, .inr (8, [w21, w22, w23, .ref q28, w25, w26, w27])), (q17, .inl (g.2 3, 10, .inr (.inr (.inr (.inr f18))))), (q13, .inr (10, [.ref q17, .int 0, w16])), (q1, .inr (11, [.ref q13, w3, w4, w5, w6, w7, w8, w9, w10, w11, w12]))] sz) := by
  refine ofN (by decide) (Nat.le_of_ble_eq_true rfl) rfl ?_
  intro p e s m args below meth c A ls hAe hsz hx hb hml hr hlocks hin hown hE hP hD hA hS hl
  have hown : s.vm.findClass RX9 = some m.cls := hown
  refine lv_iload_n hx hb dX9_instrument_0 rfl (lv_at hl 1 rfl) ?_
  refine g0_v (rS (rest := []) hx hb hml hown hE hP hD (c1854_X9_requireInstrument l g 2 (by decide) (by decide) s.heap.size) (kS_X9_requireInstrument hE (e991 hE) rfl rfl ⟨(Nat.le_of_ble_eq_true rfl), (Nat.le_of_ble_eq_true rfl)⟩) [] rfl (by decide) rfl hl.1 rfl (lv_room (Nat.le_of_ble_eq_true rfl)) dX9_instrument_1 ⟨(Nat.le_of_ble_eq_true rfl), (Nat.le_of_ble_eq_true rfl)⟩) hP hD hS hA (fun u9 H locs hP hS => ?_)
  refine lv_iload_n hx hb dX9_instrument_4 rfl (lv_at hl 2 rfl) ?_
  refine lv_iconst (v := 0) hx hb dX9_instrument_5 (by decide) ?_
  refine lv_iconst (v := 5) hx hb dX9_instrument_6 (by decide) ?_
  refine g0_v (rS (rest := []) hx hb hml hown hE hP hD (c968_X9_requireRange l g 4 (by decide) (by decide) H.size) (kS_X9_requireRange hE (e636 hE) rfl rfl ⟨(Nat.le_of_ble_eq_true rfl), (Nat.le_of_ble_eq_true rfl)⟩) [] rfl (by decide) rfl hl.1 rfl (lv_room (Nat.le_of_ble_eq_true rfl)) dX9_instrument_7 ⟨(Nat.le_of_ble_eq_true rfl), (Nat.le_of_ble_eq_true rfl)⟩) hP hD hS hA (fun u9 H locs hP hS => ?_)
  refine lv_aload_n hx hb dX9_instrument_10 rfl (lv_at hl 0 rfl) ?_
  refine gf_RX9_12 hx hb hown hE hP 4 rfl rfl dX9_instrument_11 ?_
  refine g_r (wr := [(q28, .inl (g.2 0, 20, .inl f29)), (q20, .inr (8, [w21, w22, w23, .ref q28, w25, w26, w27])), (q1, .inr (11, [.ref q13, w3, w4, w5, w6, w7, w8, w9, w10, w11, w12]))]) (rV (rest := []) hx hb hml hown hE hP hD 3 rfl rfl (c71_X8_current l g q13 q17 q20 w16 f18 (hf19) H.size) (kV_X8_current hE (e290 hE) rfl rfl ⟨(Nat.le_of_ble_eq_true rfl), (Nat.le_of_ble_eq_true rfl)⟩) [2, 3] rfl (by decide) rfl hl.1 rfl (lv_room (Nat.le_of_ble_eq_true rfl)) dX9_instrument_14 ⟨(Nat.le_of_ble_eq_true rfl), (Nat.le_of_ble_eq_true rfl)⟩) hP hD hS hA [2, 3] [0, 1, 4] rfl rfl (by decide) (by decide) (fun u3 H locs hP hD hS => ?_)
  have hP : va_P g.1 vwCl [(q28, .inl (g.2 0, 20, .inl f29)), (q20, .inr (8, [w21, w22, w23, .ref q28, w25, w26, w27])), (q1, .inr (11, [.ref q13, w3, w4, w5, w6, w7, w8, w9, w10, w11, w12])), (q17, .inl (g.2 3, 10, .inr (.inr (.inr (.inr f18))))), (q13, .inr (10, [.ref q17, .int 0, w16]))] H := hP
  have hD : va_D A [(q28, .inl (g.2 0, 20, .inl f29)), (q20, .inr (8, [w21, w22, w23, .ref q28, w25, w26, w27])), (q1, .inr (11, [.ref q13, w3, w4, w5, w6, w7, w8, w9, w10, w11, w12])), (q17, .inl (g.2 3, 10, .inr (.inr (.inr (.inr f18))))), (q13, .inr (10, [.ref q17, .int 0, w16]))] := hD
  refine lv_astore_n (lv' := [(3, .ref q20), (0, .ref q1), (1, .int 2), (2, .int 4)]) hx hb dX9_instrument_17 rfl hl (by decide) rfl (fun ls hl => ?_)
  refine lv_iload_n hx hb dX9_instrument_18 rfl (lv_at hl 3 rfl) ?_
  refine lv_iconst (v := 5) hx hb dX9_instrument_19 (by decide) ?_
  refine lv_icmp_ne (tgt := 29) hx hb dX9_instrument_20 (by decide) (fun _ => ?_) (fun h => absurd h (by decide))
  refine lv_aload_n hx hb dX9_instrument_29 rfl (lv_at hl 0 rfl) ?_
  refine lv_iload_n hx hb dX9_instrument_30 rfl (lv_at hl 2 rfl) ?_
  refine lv_iload_n hx hb dX9_instrument_31 rfl (lv_at hl 3 rfl) ?_
  refine g_i (wr := [(q1, .inr (11, [.ref q13, w3, w4, w5, w6, w7, w8, w9, w10, w11, w12])), (q17, .inl (g.2 3, 10, .inr (.inr (.inr (.inr f18))))), (q13, .inr (10, [.ref q17, .int 0, w16]))]) (rV (rest := []) hx hb hml hown hE hP hD 1 rfl rfl (c2129_X6_instrumentNumber l g q20 q28 w21 w22 w23 w25 w26 w27 f29 (hf30) H.size) (kV_X6_instrumentNumber hE (e1010 hE) rfl rfl ⟨(Nat.le_of_ble_eq_true rfl), (Nat.le_of_ble_eq_true rfl)⟩) [0, 1] rfl (by decide) rfl hl.1 rfl (lv_room (Nat.le_of_ble_eq_true rfl)) dX9_instrument_32 ⟨(Nat.le_of_ble_eq_true rfl), (Nat.le_of_ble_eq_true rfl)⟩) hP hD hS hA [0, 1] [2, 3, 4] rfl rfl (by decide) (by decide) (fun u4 H locs hP hD hS => ?_)
  have hP : va_P g.1 vwCl [(q1, .inr (11, [.ref q13, w3, w4, w5, w6, w7, w8, w9, w10, w11, w12])), (q17, .inl (g.2 3, 10, .inr (.inr (.inr (.inr f18))))), (q13, .inr (10, [.ref q17, .int 0, w16])), (q28, .inl (g.2 0, 20, .inl f29)), (q20, .inr (8, [w21, w22, w23, .ref q28, w25, w26, w27]))] H := hP
  have hD : va_D A [(q1, .inr (11, [.ref q13, w3, w4, w5, w6, w7, w8, w9, w10, w11, w12])), (q17, .inl (g.2 3, 10, .inr (.inr (.inr (.inr f18))))), (q13, .inr (10, [.ref q17, .int 0, w16])), (q28, .inl (g.2 0, 20, .inl f29)), (q20, .inr (8, [w21, w22, w23, .ref q28, w25, w26, w27]))] := hD
  exact x_zret hx hb hr rfl rfl hlocks hP hD hS hAe hsz (Nat.le_of_ble_eq_true rfl) (Nat.le_of_ble_eq_true rfl) (fun _ => 0) [0, 1, 2, 3, 4] (by decide) rfl dX9_instrument_35

set_option maxHeartbeats 4000000 in
set_option maxRecDepth 100000 in
theorem c2209_L_instrument (l : Launch) (g : gG) (hlx : l.stackTraces = false) (q1 q2 q14 q18 q21 q29 : Nat) (w4 w5 w6 w7 w8 w9 w10 w11 w12 w13 w17 w22 w23 w24 w26 w27 w28 : Value) (f19 : Nat → Option Nat) (f30 : Nat → Int32) (f32 : Nat → Int64) (hf20 : f19 0 = some q21) (hf31 : f30 14 = 5) (sz : Nat) : Met l yL_instrument [Cond.codeWith yL_instrument cL_instrument 5 (some .int) [(0, 10, 13, 13), (0, 10, 17, 15)]] ({ frames := 3, cells := 0, slots := 0, locals := 65 } : Room) (va_Pc [.ref q1, .int 2, .int 4, .ref q2] (PZ g sz [(q2, .inl (g.2 1, 1, .inr (.inl f32))), (q29, .inl (g.2 0, 20, .inl f30)), (q21, .inr (8, [w22, w23, w24, .ref q29, w26, w27, w28])), (q18, .inl (g.2 3, 10, .inr (.inr (.inr (.inr f19))))), (q14, .inr (10, [.ref q18, .int 0, w17])), (q1, .inr (11, [.ref q14, w4, w5, w6, w7, w8, w9, w10, w11, w12, w13]))])) (QI g [(q2, .inl (g.2 1, 1, .inr (.inl f32))), (q29, .inl (g.2 0, 20, .inl f30)), (q21, .inr (8, [w22, w23, w24, .ref q29, w26, w27, w28])), (q18, .inl (g.2 3, 10, .inr (.inr (.inr (.inr f19))))), (q14, .inr (10, [.ref q18, .int 0, w17])), (q1, .inr (11, [.ref q14, w4, w5, w6, w7, w8, w9, w10, w11, w12, w13]))] sz 0 (fun _ => [(q2, .inl (g.2 1, 1, .inr (.inl (vp_updL f32 0 5))))])) 0 0 (va_A [(q2, .inl (g.2 1, 1, .inr (.inl f32))), (q29, .inl (g.2 0, 20, .inl f30)), (q21, .inr (8, [w22, w23, w24, .ref q29, w26, w27, w28])), (q18, .inl (g.2 3, 10, .inr (.inr (.inr (.inr f19))))), (q14, .inr (10, [.ref q18, .int 0, w17])), (q1, .inr (11, [.ref q14, w4, w5, w6, w7, w8, w9, w10, w11, w12, w13]))] sz) := by
  refine ofH (by decide) (Nat.le_of_ble_eq_true rfl) rfl ?_
  intro p e s m args below meth c A ls hAe hsz hx hb hml hr hlocks hin hown hE hP hD hA hS hl htb hz
  have hown : s.vm.findClass RL = some m.cls := hown
  refine lv_aload_n hx hb dL_instrument_0 rfl (lv_at hl 3 rfl) ?_
  refine lv_iconst (v := 0) hx hb dL_instrument_1 (by decide) ?_
  refine lv_aload_n hx hb dL_instrument_2 rfl (lv_at hl 0 rfl) ?_
  refine lv_iload_n hx hb dL_instrument_3 rfl (lv_at hl 1 rfl) ?_
  refine lv_iload_n hx hb dL_instrument_4 rfl (lv_at hl 2 rfl) ?_
  refine g_i (wr := [(q2, .inl (g.2 1, 1, .inr (.inl f32)))]) (rV (rest := [.int 0, .ref q2]) hx hb hml hown hE hP hD 5 rfl rfl (c2208_X9_instrument l g q1 q14 q18 q21 q29 w4 w5 w6 w7 w8 w9 w10 w11 w12 w13 w17 w22 w23 w24 w26 w27 w28 f19 f30 (hf20) (hf31) s.heap.size) (kV_X9_instrument hE (e1015 hE) rfl rfl ⟨(Nat.le_of_ble_eq_true rfl), (Nat.le_of_ble_eq_true rfl)⟩) [1, 2, 3, 4, 5] rfl (by decide) rfl hl.1 rfl (lv_room (Nat.le_of_ble_eq_true rfl)) dL_instrument_5 ⟨(Nat.le_of_ble_eq_true rfl), (Nat.le_of_ble_eq_true rfl)⟩) hP hD hS hA [1, 2, 3, 4, 5] [0] rfl rfl (by decide) (by decide) (fun u1 H locs hP hD hS => ?_)
  have hP : va_P g.1 vwCl [(q2, .inl (g.2 1, 1, .inr (.inl f32))), (q1, .inr (11, [.ref q14, w4, w5, w6, w7, w8, w9, w10, w11, w12, w13])), (q18, .inl (g.2 3, 10, .inr (.inr (.inr (.inr f19))))), (q14, .inr (10, [.ref q18, .int 0, w17])), (q29, .inl (g.2 0, 20, .inl f30)), (q21, .inr (8, [w22, w23, w24, .ref q29, w26, w27, w28]))] H := hP
  have hD : va_D A [(q2, .inl (g.2 1, 1, .inr (.inl f32))), (q1, .inr (11, [.ref q14, w4, w5, w6, w7, w8, w9, w10, w11, w12, w13])), (q18, .inl (g.2 3, 10, .inr (.inr (.inr (.inr f19))))), (q14, .inr (10, [.ref q18, .int 0, w17])), (q29, .inl (g.2 0, 20, .inl f30)), (q21, .inr (8, [w22, w23, w24, .ref q29, w26, w27, w28]))] := hD
  refine lv_i2l (v := 5) hx hb dL_instrument_8 (by decide) ?_
  refine x_last (ws' := [(q2, .inl (g.2 1, 1, .inr (.inl (vp_updL f32 0 5)))), (q1, .inr (11, [.ref q14, w4, w5, w6, w7, w8, w9, w10, w11, w12, w13])), (q18, .inl (g.2 3, 10, .inr (.inr (.inr (.inr f19))))), (q14, .inr (10, [.ref q18, .int 0, w17])), (q29, .inl (g.2 0, 20, .inl f30)), (q21, .inr (8, [w22, w23, w24, .ref q29, w26, w27, w28]))]) hx hb hE hP hD hS 0 rfl 0 (x_in (by decide)) (by decide) dL_instrument_9 rfl (fun H locs hP hD hS => ?_)
  refine lv_goto (tgt := 21) hx hb dL_instrument_10 (by decide) ?_
  refine lv_iconst (v := 0) hx hb dL_instrument_21 (by decide) ?_
  exact x_zret hx hb hr rfl rfl hlocks hP hD hS hAe hsz (Nat.le_of_ble_eq_true rfl) (Nat.le_of_ble_eq_true rfl) (fun _ => 0) [0] (by decide) rfl dL_instrument_22

set_option maxHeartbeats 4000000 in
set_option maxRecDepth 100000 in
theorem c2210_X10_instrument (l : Launch) (g : gG) (q1 q39 : Nat) (w3 w4 w5 w6 w7 w8 w9 w10 w11 w12 w13 w14 w15 w16 w17 w18 w19 w20 w21 w22 w23 w24 w25 w26 w27 w28 w29 w30 w31 w32 w33 w34 w35 w36 w37 w38 : Value) (f40 : Nat → Int32) (hf41 : f40 392 = 0) (hf42 : f40 488 = 5) (sz : Nat) : Met l yX10_instrument [Cond.code yX10_instrument cX10_instrument 5 (some .int)] ({ frames := 2, cells := 0, slots := 0, locals := 42 } : Room) (va_Pc [.ref q1, .int 2, .int 4] (PX g sz [(q39, .inl (g.2 0, 497, .inl f40)), (q1, .inr (12, [.ref q39, w3, w4, w5, w6, w7, w8, w9, w10, w11, w12, w13, w14, w15, w16, w17, w18, w19, w20, w21, w22, w23, w24, w25, w26, w27, w28, w29, w30, w31, w32, w33, w34, w35, w36, w37, w38]))])) (QI g [(q39, .inl (g.2 0, 497, .inl f40)), (q1, .inr (12, [.ref q39, w3, w4, w5, w6, w7, w8, w9, w10, w11, w12, w13, w14, w15, w16, w17, w18, w19, w20, w21, w22, w23, w24, w25, w26, w27, w28, w29, w30, w31, w32, w33, w34, w35, w36, w37, w38]))] sz 5 (fun _ => [(q1, .inr (12, [.ref q39, w3, w4, w5, w6, w7, .int 0, w9, w10, w11, w12, w13, w14, w15, w16, w17, w18, w19, w20, w21, w22, w23, w24, w25, w26, w27, w28, w29, w30, w31, w32, w33, w34, w35, w36, w37, w38]))])) 0 0 (va_A [(q39, .inl (g.2 0, 497, .inl f40)), (q1, .inr (12, [.ref q39, w3, w4, w5, w6, w7, w8, w9, w10, w11, w12, w13, w14, w15, w16, w17, w18, w19, w20, w21, w22, w23, w24, w25, w26, w27, w28, w29, w30, w31, w32, w33, w34, w35, w36, w37, w38]))] sz) := by
  refine ofN (by decide) (Nat.le_of_ble_eq_true rfl) rfl ?_
  intro p e s m args below meth c A ls hAe hsz hx hb hml hr hlocks hin hown hE hP hD hA hS hl
  have hown : s.vm.findClass RX10 = some m.cls := hown
  refine lv_aload_n hx hb dX10_instrument_0 rfl (lv_at hl 0 rfl) ?_
  refine lv_iload_n hx hb dX10_instrument_1 rfl (lv_at hl 1 rfl) ?_
  refine g0_i (rS (rest := [.ref q1]) hx hb hml hown hE hP hD (c1857_X10_isInstrument l g 2 (by decide) (by decide) s.heap.size) (kS_X10_isInstrument hE (e1645 hE) rfl rfl ⟨(Nat.le_of_ble_eq_true rfl), (Nat.le_of_ble_eq_true rfl)⟩) [] rfl (by decide) rfl hl.1 rfl (lv_room (Nat.le_of_ble_eq_true rfl)) dX10_instrument_2 ⟨(Nat.le_of_ble_eq_true rfl), (Nat.le_of_ble_eq_true rfl)⟩) hP hD hS hA (fun u9 H locs hP hS => ?_)
  refine lv_if_ne (tgt := 12) hx hb dX10_instrument_5 (by decide) (fun _ => ?_) (fun h => absurd h (by decide))
  refine lv_iload_n hx hb dX10_instrument_12 rfl (lv_at hl 2 rfl) ?_
  refine lv_iconst (v := 0) hx hb dX10_instrument_13 (by decide) ?_
  refine lv_iconst (v := 5) hx hb dX10_instrument_14 (by decide) ?_
  refine g0_i (rS (rest := [.ref q1]) hx hb hml hown hE hP hD (c971_X10_in l g 4 (by decide) (by decide) H.size) (kS_X10_in hE (e1431 hE) rfl rfl ⟨(Nat.le_of_ble_eq_true rfl), (Nat.le_of_ble_eq_true rfl)⟩) [] rfl (by decide) rfl hl.1 rfl (lv_room (Nat.le_of_ble_eq_true rfl)) dX10_instrument_15 ⟨(Nat.le_of_ble_eq_true rfl), (Nat.le_of_ble_eq_true rfl)⟩) hP hD hS hA (fun u9 H locs hP hS => ?_)
  refine lv_if_ne (tgt := 25) hx hb dX10_instrument_18 (by decide) (fun _ => ?_) (fun h => absurd h (by decide))
  refine lv_iconst (v := 0) hx hb dX10_instrument_25 (by decide) ?_
  refine pf_RX10_86 (ws' := [(q39, .inl (g.2 0, 497, .inl f40)), (q1, .inr (12, [.ref q39, w3, w4, w5, w6, w7, .int 0, w9, w10, w11, w12, w13, w14, w15, w16, w17, w18, w19, w20, w21, w22, w23, w24, w25, w26, w27, w28, w29, w30, w31, w32, w33, w34, w35, w36, w37, w38]))]) hx hb hown hE hP hD hS 1 rfl rfl rfl (Nat.le_of_ble_eq_true rfl) dX10_instrument_26 rfl (fun H locs hP hD hS => ?_)
  refine lv_aload_n hx hb dX10_instrument_29 rfl (lv_at hl 0 rfl) ?_
  refine gf_RX10_86 hx hb hown hE hP 1 rfl rfl dX10_instrument_30 ?_
  refine lv_if_le (tgt := 38) hx hb dX10_instrument_33 (by decide) (fun _ => ?_) (fun h => absurd (by decide) h)
  refine lv_iconst (v := 0) hx hb dX10_instrument_38 (by decide) ?_
  refine lv_istore_n (lv' := [(3, .int 0), (0, .ref q1), (1, .int 2), (2, .int 4)]) hx hb dX10_instrument_39 rfl hl (by decide) rfl (fun ls hl => ?_)
  refine lv_iconst (v := 0) hx hb dX10_instrument_40 (by decide) ?_
  refine lv_istore (lv' := [(4, .int 0), (3, .int 0), (0, .ref q1), (1, .int 2), (2, .int 4)]) hx hb dX10_instrument_41 hl (by decide) rfl (fun ls hl => ?_)
  refine lv_iload hx hb dX10_instrument_43 (lv_at hl 0 rfl) ?_
  refine lv_aload_n hx hb dX10_instrument_45 rfl (lv_at hl 2 rfl) ?_
  refine gf_RX10_9 hx hb hown hE hP 1 rfl rfl dX10_instrument_46 ?_
  refine lv_sipush (v := 392) hx hb dX10_instrument_49 (by decide) ?_
  refine x_iald (v := 0) hx hb hE hP 0 rfl 392 (x_in (by decide)) (by decide) hf41 dX10_instrument_52 ?_
  refine lv_icmp_ge (tgt := 81) hx hb dX10_instrument_53 (by decide) (fun _ => ?_) (fun h => absurd (by decide) h)
  refine lv_iload_n hx hb dX10_instrument_81 rfl (lv_at hl 4 rfl) ?_
  refine lv_iconst (v := 5) hx hb dX10_instrument_82 (by decide) ?_
  refine lv_icmp_ne (tgt := 90) hx hb dX10_instrument_83 (by decide) (fun _ => ?_) (fun h => absurd h (by decide))
  refine lv_aload_n hx hb dX10_instrument_90 rfl (lv_at hl 2 rfl) ?_
  refine gf_RX10_9 hx hb hown hE hP 1 rfl rfl dX10_instrument_91 ?_
  refine lv_sipush (v := 474) hx hb dX10_instrument_94 (by decide) ?_
  refine lv_iconst (v := 5) hx hb dX10_instrument_97 (by decide) ?_
  refine lv_iload_n hx hb dX10_instrument_98 rfl (lv_at hl 3 rfl) ?_
  refine x_imul (v := 10) hx hb dX10_instrument_99 (by decide) ?_
  refine x_iadd (v := 484) hx hb dX10_instrument_100 (by decide) ?_
  refine lv_iload_n hx hb dX10_instrument_101 rfl (lv_at hl 4 rfl) ?_
  refine x_iadd (v := 488) hx hb dX10_instrument_102 (by decide) ?_
  refine x_iald (v := 5) hx hb hE hP 0 rfl 488 (x_in (by decide)) (by decide) hf42 dX10_instrument_103 ?_
  exact x_zret hx hb hr rfl rfl hlocks hP hD hS hAe hsz (Nat.le_of_ble_eq_true rfl) (Nat.le_of_ble_eq_true rfl) (fun _ => 0) [1] (by decide) rfl dX10_instrument_104

set_option maxHeartbeats 4000000 in
set_option maxRecDepth 100000 in
theorem c2211_X6_countClipsWith (l : Launch) (g : gG) (q1 : Nat) (w2 w3 w4 w5 w7 w8 : Value) (sz : Nat) : Met l yX6_countClipsWith [Cond.code yX6_countClipsWith cX6_countClipsWith 4 (some .int)] ({ frames := 0, cells := 0, slots := 0, locals := 0 } : Room) (va_Pc [.ref q1, .int 2] (PX g sz [(q1, .inr (8, [w2, w3, w4, w5, .int 0, w7, w8]))])) (QI g [(q1, .inr (8, [w2, w3, w4, w5, .int 0, w7, w8]))] sz 0 (fun _ => [(q1, .inr (8, [w2, w3, w4, w5, .int 0, w7, w8]))])) 0 0 (va_A [(q1, .inr (8, [w2, w3, w4, w5, .int 0, w7, w8]))] sz) := by
  refine ofN (by decide) (Nat.le_of_ble_eq_true rfl) rfl ?_
  intro p e s m args below meth c A ls hAe hsz hx hb hml hr hlocks hin hown hE hP hD hA hS hl
  have hown : s.vm.findClass RX6 = some m.cls := hown
  refine lv_iconst (v := 0) hx hb dX6_countClipsWith_0 (by decide) ?_
  refine lv_istore_n (lv' := [(2, .int 0), (0, .ref q1), (1, .int 2)]) hx hb dX6_countClipsWith_1 rfl hl (by decide) rfl (fun ls hl => ?_)
  refine lv_iconst (v := 0) hx hb dX6_countClipsWith_2 (by decide) ?_
  refine lv_istore_n (lv' := [(3, .int 0), (2, .int 0), (0, .ref q1), (1, .int 2)]) hx hb dX6_countClipsWith_3 rfl hl (by decide) rfl (fun ls hl => ?_)
  refine lv_iload_n hx hb dX6_countClipsWith_4 rfl (lv_at hl 0 rfl) ?_
  refine lv_aload_n hx hb dX6_countClipsWith_5 rfl (lv_at hl 2 rfl) ?_
  refine gf_RX6_37 hx hb hown hE hP 0 rfl rfl dX6_countClipsWith_6 ?_
  refine lv_icmp_ge (tgt := 31) hx hb dX6_countClipsWith_9 (by decide) (fun _ => ?_) (fun h => absurd (by decide) h)
  refine lv_iload_n hx hb dX6_countClipsWith_31 rfl (lv_at hl 1 rfl) ?_
  exact x_zret hx hb hr rfl rfl hlocks hP hD hS hAe hsz (Nat.le_of_ble_eq_true rfl) (Nat.le_of_ble_eq_true rfl) (fun _ => 0) [0] (by decide) rfl dX6_countClipsWith_32

set_option maxHeartbeats 4000000 in
set_option maxRecDepth 100000 in
theorem c2212_X9_instrument (l : Launch) (g : gG) (q1 q13 q17 q20 : Nat) (w3 w4 w5 w6 w7 w8 w9 w10 w11 w12 w16 w21 w22 w23 w24 w26 w27 : Value) (f18 : Nat → Option Nat) (hf19 : f18 0 = some q20) (sz : Nat) : Met l yX9_instrument [Cond.code yX9_instrument cX9_instrument 4 (some .int)] ({ frames := 2, cells := 0, slots := 0, locals := 42 } : Room) (va_Pc [.ref q1, .int 2, .int 5] (PX g sz [(q20, .inr (8, [w21, w22, w23, w24, .int 0, w26, w27])), (q17, .inl (g.2 3, 10, .inr (.inr (.inr (.inr f18))))), (q13, .inr (10, [.ref q17, .int 0, w16])), (q1, .inr (11, [.ref q13, w3, w4, w5, w6, w7, w8, w9, w10, w11, w12]))])) (QI g [(q20, .inr (8, [w21, w22, w23, w24, .int 0, w26, w27])), (q17, .inl (g.2 3, 10, .inr (.inr (.inr (.inr f18))))), (q13, .inr (10, [.ref q17, .int 0, w16])), (q1, .inr (11, [.ref q13, w3, w4, w5, w6, w7, w8, w9, w10, w11, w12]))] sz 0 (fun _ => [(q1, .inr (11, [.ref q13, w3, w4, w5, w6, w7, w8, w9, w10, w11, w12])), (q17, .inl (g.2 3, 10, .inr (.inr (.inr (.inr f18))))), (q13, .inr (10, [.ref q17, .int 0, w16])), (q20, .inr (8, [w21, w22, w23, w24, .int 0, w26, w27]))])) 0 0 (va_A [(q20, .inr (8, [w21, w22, w23, w24, .int 0, w26, w27])), (q17, .inl (g.2 3, 10, .inr (.inr (.inr (.inr f18))))), (q13, .inr (10, [.ref q17, .int 0, w16])), (q1, .inr (11, [.ref q13, w3, w4, w5, w6, w7, w8, w9, w10, w11, w12]))] sz) := by
  refine ofN (by decide) (Nat.le_of_ble_eq_true rfl) rfl ?_
  intro p e s m args below meth c A ls hAe hsz hx hb hml hr hlocks hin hown hE hP hD hA hS hl
  have hown : s.vm.findClass RX9 = some m.cls := hown
  refine lv_iload_n hx hb dX9_instrument_0 rfl (lv_at hl 1 rfl) ?_
  refine g0_v (rS (rest := []) hx hb hml hown hE hP hD (c1854_X9_requireInstrument l g 2 (by decide) (by decide) s.heap.size) (kS_X9_requireInstrument hE (e991 hE) rfl rfl ⟨(Nat.le_of_ble_eq_true rfl), (Nat.le_of_ble_eq_true rfl)⟩) [] rfl (by decide) rfl hl.1 rfl (lv_room (Nat.le_of_ble_eq_true rfl)) dX9_instrument_1 ⟨(Nat.le_of_ble_eq_true rfl), (Nat.le_of_ble_eq_true rfl)⟩) hP hD hS hA (fun u9 H locs hP hS => ?_)
  refine lv_iload_n hx hb dX9_instrument_4 rfl (lv_at hl 2 rfl) ?_
  refine lv_iconst (v := 0) hx hb dX9_instrument_5 (by decide) ?_
  refine lv_iconst (v := 5) hx hb dX9_instrument_6 (by decide) ?_
  refine g0_v (rS (rest := []) hx hb hml hown hE hP hD (c968_X9_requireRange l g 5 (by decide) (by decide) H.size) (kS_X9_requireRange hE (e636 hE) rfl rfl ⟨(Nat.le_of_ble_eq_true rfl), (Nat.le_of_ble_eq_true rfl)⟩) [] rfl (by decide) rfl hl.1 rfl (lv_room (Nat.le_of_ble_eq_true rfl)) dX9_instrument_7 ⟨(Nat.le_of_ble_eq_true rfl), (Nat.le_of_ble_eq_true rfl)⟩) hP hD hS hA (fun u9 H locs hP hS => ?_)
  refine lv_aload_n hx hb dX9_instrument_10 rfl (lv_at hl 0 rfl) ?_
  refine gf_RX9_12 hx hb hown hE hP 3 rfl rfl dX9_instrument_11 ?_
  refine g_r (wr := [(q20, .inr (8, [w21, w22, w23, w24, .int 0, w26, w27])), (q1, .inr (11, [.ref q13, w3, w4, w5, w6, w7, w8, w9, w10, w11, w12]))]) (rV (rest := []) hx hb hml hown hE hP hD 2 rfl rfl (c71_X8_current l g q13 q17 q20 w16 f18 (hf19) H.size) (kV_X8_current hE (e290 hE) rfl rfl ⟨(Nat.le_of_ble_eq_true rfl), (Nat.le_of_ble_eq_true rfl)⟩) [1, 2] rfl (by decide) rfl hl.1 rfl (lv_room (Nat.le_of_ble_eq_true rfl)) dX9_instrument_14 ⟨(Nat.le_of_ble_eq_true rfl), (Nat.le_of_ble_eq_true rfl)⟩) hP hD hS hA [1, 2] [0, 3] rfl rfl (by decide) (by decide) (fun u3 H locs hP hD hS => ?_)
  have hP : va_P g.1 vwCl [(q20, .inr (8, [w21, w22, w23, w24, .int 0, w26, w27])), (q1, .inr (11, [.ref q13, w3, w4, w5, w6, w7, w8, w9, w10, w11, w12])), (q17, .inl (g.2 3, 10, .inr (.inr (.inr (.inr f18))))), (q13, .inr (10, [.ref q17, .int 0, w16]))] H := hP
  have hD : va_D A [(q20, .inr (8, [w21, w22, w23, w24, .int 0, w26, w27])), (q1, .inr (11, [.ref q13, w3, w4, w5, w6, w7, w8, w9, w10, w11, w12])), (q17, .inl (g.2 3, 10, .inr (.inr (.inr (.inr f18))))), (q13, .inr (10, [.ref q17, .int 0, w16]))] := hD
  refine lv_astore_n (lv' := [(3, .ref q20), (0, .ref q1), (1, .int 2), (2, .int 5)]) hx hb dX9_instrument_17 rfl hl (by decide) rfl (fun ls hl => ?_)
  refine lv_iload_n hx hb dX9_instrument_18 rfl (lv_at hl 3 rfl) ?_
  refine lv_iconst (v := 5) hx hb dX9_instrument_19 (by decide) ?_
  refine lv_icmp_ne (tgt := 29) hx hb dX9_instrument_20 (by decide) (fun h => absurd h (by decide)) (fun _ => ?_)
  refine lv_aload_n hx hb dX9_instrument_23 rfl (lv_at hl 0 rfl) ?_
  refine lv_iload_n hx hb dX9_instrument_24 rfl (lv_at hl 2 rfl) ?_
  refine g_i (wr := [(q1, .inr (11, [.ref q13, w3, w4, w5, w6, w7, w8, w9, w10, w11, w12])), (q17, .inl (g.2 3, 10, .inr (.inr (.inr (.inr f18))))), (q13, .inr (10, [.ref q17, .int 0, w16]))]) (rV (rest := []) hx hb hml hown hE hP hD 0 rfl rfl (c2211_X6_countClipsWith l g q20 w21 w22 w23 w24 w26 w27 H.size) (kV_X6_countClipsWith hE (e1019 hE) rfl rfl ⟨(Nat.le_of_ble_eq_true rfl), (Nat.le_of_ble_eq_true rfl)⟩) [0] rfl (by decide) rfl hl.1 rfl (lv_room (Nat.le_of_ble_eq_true rfl)) dX9_instrument_25 ⟨(Nat.le_of_ble_eq_true rfl), (Nat.le_of_ble_eq_true rfl)⟩) hP hD hS hA [0] [1, 2, 3] rfl rfl (by decide) (by decide) (fun u4 H locs hP hD hS => ?_)
  have hP : va_P g.1 vwCl [(q1, .inr (11, [.ref q13, w3, w4, w5, w6, w7, w8, w9, w10, w11, w12])), (q17, .inl (g.2 3, 10, .inr (.inr (.inr (.inr f18))))), (q13, .inr (10, [.ref q17, .int 0, w16])), (q20, .inr (8, [w21, w22, w23, w24, .int 0, w26, w27]))] H := hP
  have hD : va_D A [(q1, .inr (11, [.ref q13, w3, w4, w5, w6, w7, w8, w9, w10, w11, w12])), (q17, .inl (g.2 3, 10, .inr (.inr (.inr (.inr f18))))), (q13, .inr (10, [.ref q17, .int 0, w16])), (q20, .inr (8, [w21, w22, w23, w24, .int 0, w26, w27]))] := hD
  exact x_zret hx hb hr rfl rfl hlocks hP hD hS hAe hsz (Nat.le_of_ble_eq_true rfl) (Nat.le_of_ble_eq_true rfl) (fun _ => 0) [0, 1, 2, 3] (by decide) rfl dX9_instrument_28

set_option maxHeartbeats 4000000 in
set_option maxRecDepth 100000 in
theorem c2213_L_instrument (l : Launch) (g : gG) (hlx : l.stackTraces = false) (q1 q2 q14 q18 q21 : Nat) (w4 w5 w6 w7 w8 w9 w10 w11 w12 w13 w17 w22 w23 w24 w25 w27 w28 : Value) (f19 : Nat → Option Nat) (f29 : Nat → Int64) (hf20 : f19 0 = some q21) (sz : Nat) : Met l yL_instrument [Cond.codeWith yL_instrument cL_instrument 5 (some .int) [(0, 10, 13, 13), (0, 10, 17, 15)]] ({ frames := 3, cells := 0, slots := 0, locals := 65 } : Room) (va_Pc [.ref q1, .int 2, .int 5, .ref q2] (PZ g sz [(q2, .inl (g.2 1, 1, .inr (.inl f29))), (q21, .inr (8, [w22, w23, w24, w25, .int 0, w27, w28])), (q18, .inl (g.2 3, 10, .inr (.inr (.inr (.inr f19))))), (q14, .inr (10, [.ref q18, .int 0, w17])), (q1, .inr (11, [.ref q14, w4, w5, w6, w7, w8, w9, w10, w11, w12, w13]))])) (QI g [(q2, .inl (g.2 1, 1, .inr (.inl f29))), (q21, .inr (8, [w22, w23, w24, w25, .int 0, w27, w28])), (q18, .inl (g.2 3, 10, .inr (.inr (.inr (.inr f19))))), (q14, .inr (10, [.ref q18, .int 0, w17])), (q1, .inr (11, [.ref q14, w4, w5, w6, w7, w8, w9, w10, w11, w12, w13]))] sz 0 (fun _ => [(q2, .inl (g.2 1, 1, .inr (.inl (vp_updL f29 0 0))))])) 0 0 (va_A [(q2, .inl (g.2 1, 1, .inr (.inl f29))), (q21, .inr (8, [w22, w23, w24, w25, .int 0, w27, w28])), (q18, .inl (g.2 3, 10, .inr (.inr (.inr (.inr f19))))), (q14, .inr (10, [.ref q18, .int 0, w17])), (q1, .inr (11, [.ref q14, w4, w5, w6, w7, w8, w9, w10, w11, w12, w13]))] sz) := by
  refine ofH (by decide) (Nat.le_of_ble_eq_true rfl) rfl ?_
  intro p e s m args below meth c A ls hAe hsz hx hb hml hr hlocks hin hown hE hP hD hA hS hl htb hz
  have hown : s.vm.findClass RL = some m.cls := hown
  refine lv_aload_n hx hb dL_instrument_0 rfl (lv_at hl 3 rfl) ?_
  refine lv_iconst (v := 0) hx hb dL_instrument_1 (by decide) ?_
  refine lv_aload_n hx hb dL_instrument_2 rfl (lv_at hl 0 rfl) ?_
  refine lv_iload_n hx hb dL_instrument_3 rfl (lv_at hl 1 rfl) ?_
  refine lv_iload_n hx hb dL_instrument_4 rfl (lv_at hl 2 rfl) ?_
  refine g_i (wr := [(q2, .inl (g.2 1, 1, .inr (.inl f29)))]) (rV (rest := [.int 0, .ref q2]) hx hb hml hown hE hP hD 4 rfl rfl (c2212_X9_instrument l g q1 q14 q18 q21 w4 w5 w6 w7 w8 w9 w10 w11 w12 w13 w17 w22 w23 w24 w25 w27 w28 f19 (hf20) s.heap.size) (kV_X9_instrument hE (e1015 hE) rfl rfl ⟨(Nat.le_of_ble_eq_true rfl), (Nat.le_of_ble_eq_true rfl)⟩) [1, 2, 3, 4] rfl (by decide) rfl hl.1 rfl (lv_room (Nat.le_of_ble_eq_true rfl)) dL_instrument_5 ⟨(Nat.le_of_ble_eq_true rfl), (Nat.le_of_ble_eq_true rfl)⟩) hP hD hS hA [1, 2, 3, 4] [0] rfl rfl (by decide) (by decide) (fun u1 H locs hP hD hS => ?_)
  have hP : va_P g.1 vwCl [(q2, .inl (g.2 1, 1, .inr (.inl f29))), (q1, .inr (11, [.ref q14, w4, w5, w6, w7, w8, w9, w10, w11, w12, w13])), (q18, .inl (g.2 3, 10, .inr (.inr (.inr (.inr f19))))), (q14, .inr (10, [.ref q18, .int 0, w17])), (q21, .inr (8, [w22, w23, w24, w25, .int 0, w27, w28]))] H := hP
  have hD : va_D A [(q2, .inl (g.2 1, 1, .inr (.inl f29))), (q1, .inr (11, [.ref q14, w4, w5, w6, w7, w8, w9, w10, w11, w12, w13])), (q18, .inl (g.2 3, 10, .inr (.inr (.inr (.inr f19))))), (q14, .inr (10, [.ref q18, .int 0, w17])), (q21, .inr (8, [w22, w23, w24, w25, .int 0, w27, w28]))] := hD
  refine lv_i2l (v := 0) hx hb dL_instrument_8 (by decide) ?_
  refine x_last (ws' := [(q2, .inl (g.2 1, 1, .inr (.inl (vp_updL f29 0 0)))), (q1, .inr (11, [.ref q14, w4, w5, w6, w7, w8, w9, w10, w11, w12, w13])), (q18, .inl (g.2 3, 10, .inr (.inr (.inr (.inr f19))))), (q14, .inr (10, [.ref q18, .int 0, w17])), (q21, .inr (8, [w22, w23, w24, w25, .int 0, w27, w28]))]) hx hb hE hP hD hS 0 rfl 0 (x_in (by decide)) (by decide) dL_instrument_9 rfl (fun H locs hP hD hS => ?_)
  refine lv_goto (tgt := 21) hx hb dL_instrument_10 (by decide) ?_
  refine lv_iconst (v := 0) hx hb dL_instrument_21 (by decide) ?_
  exact x_zret hx hb hr rfl rfl hlocks hP hD hS hAe hsz (Nat.le_of_ble_eq_true rfl) (Nat.le_of_ble_eq_true rfl) (fun _ => 0) [0] (by decide) rfl dL_instrument_22

set_option maxHeartbeats 4000000 in
set_option maxRecDepth 100000 in
theorem c2214_X10_instrument (l : Launch) (g : gG) (q1 q39 : Nat) (w3 w4 w5 w6 w7 w8 w9 w10 w11 w12 w13 w14 w15 w16 w17 w18 w19 w20 w21 w22 w23 w24 w25 w26 w27 w28 w29 w30 w31 w32 w33 w34 w35 w36 w37 w38 : Value) (f40 : Nat → Int32) (hf41 : f40 392 = 0) (sz : Nat) : Met l yX10_instrument [Cond.code yX10_instrument cX10_instrument 5 (some .int)] ({ frames := 2, cells := 0, slots := 0, locals := 42 } : Room) (va_Pc [.ref q1, .int 2, .int 5] (PX g sz [(q39, .inl (g.2 0, 497, .inl f40)), (q1, .inr (12, [.ref q39, w3, w4, w5, w6, w7, w8, w9, w10, w11, w12, w13, w14, w15, w16, w17, w18, w19, w20, w21, w22, w23, w24, w25, w26, w27, w28, w29, w30, w31, w32, w33, w34, w35, w36, w37, w38]))])) (QI g [(q39, .inl (g.2 0, 497, .inl f40)), (q1, .inr (12, [.ref q39, w3, w4, w5, w6, w7, w8, w9, w10, w11, w12, w13, w14, w15, w16, w17, w18, w19, w20, w21, w22, w23, w24, w25, w26, w27, w28, w29, w30, w31, w32, w33, w34, w35, w36, w37, w38]))] sz 0 (fun _ => [(q1, .inr (12, [.ref q39, w3, w4, w5, w6, w7, .int 0, w9, w10, w11, w12, w13, w14, w15, w16, w17, w18, w19, w20, w21, w22, w23, w24, w25, w26, w27, w28, w29, w30, w31, w32, w33, w34, w35, w36, w37, w38]))])) 0 0 (va_A [(q39, .inl (g.2 0, 497, .inl f40)), (q1, .inr (12, [.ref q39, w3, w4, w5, w6, w7, w8, w9, w10, w11, w12, w13, w14, w15, w16, w17, w18, w19, w20, w21, w22, w23, w24, w25, w26, w27, w28, w29, w30, w31, w32, w33, w34, w35, w36, w37, w38]))] sz) := by
  refine ofN (by decide) (Nat.le_of_ble_eq_true rfl) rfl ?_
  intro p e s m args below meth c A ls hAe hsz hx hb hml hr hlocks hin hown hE hP hD hA hS hl
  have hown : s.vm.findClass RX10 = some m.cls := hown
  refine lv_aload_n hx hb dX10_instrument_0 rfl (lv_at hl 0 rfl) ?_
  refine lv_iload_n hx hb dX10_instrument_1 rfl (lv_at hl 1 rfl) ?_
  refine g0_i (rS (rest := [.ref q1]) hx hb hml hown hE hP hD (c1857_X10_isInstrument l g 2 (by decide) (by decide) s.heap.size) (kS_X10_isInstrument hE (e1645 hE) rfl rfl ⟨(Nat.le_of_ble_eq_true rfl), (Nat.le_of_ble_eq_true rfl)⟩) [] rfl (by decide) rfl hl.1 rfl (lv_room (Nat.le_of_ble_eq_true rfl)) dX10_instrument_2 ⟨(Nat.le_of_ble_eq_true rfl), (Nat.le_of_ble_eq_true rfl)⟩) hP hD hS hA (fun u9 H locs hP hS => ?_)
  refine lv_if_ne (tgt := 12) hx hb dX10_instrument_5 (by decide) (fun _ => ?_) (fun h => absurd h (by decide))
  refine lv_iload_n hx hb dX10_instrument_12 rfl (lv_at hl 2 rfl) ?_
  refine lv_iconst (v := 0) hx hb dX10_instrument_13 (by decide) ?_
  refine lv_iconst (v := 5) hx hb dX10_instrument_14 (by decide) ?_
  refine g0_i (rS (rest := [.ref q1]) hx hb hml hown hE hP hD (c971_X10_in l g 5 (by decide) (by decide) H.size) (kS_X10_in hE (e1431 hE) rfl rfl ⟨(Nat.le_of_ble_eq_true rfl), (Nat.le_of_ble_eq_true rfl)⟩) [] rfl (by decide) rfl hl.1 rfl (lv_room (Nat.le_of_ble_eq_true rfl)) dX10_instrument_15 ⟨(Nat.le_of_ble_eq_true rfl), (Nat.le_of_ble_eq_true rfl)⟩) hP hD hS hA (fun u9 H locs hP hS => ?_)
  refine lv_if_ne (tgt := 25) hx hb dX10_instrument_18 (by decide) (fun _ => ?_) (fun h => absurd h (by decide))
  refine lv_iconst (v := 0) hx hb dX10_instrument_25 (by decide) ?_
  refine pf_RX10_86 (ws' := [(q39, .inl (g.2 0, 497, .inl f40)), (q1, .inr (12, [.ref q39, w3, w4, w5, w6, w7, .int 0, w9, w10, w11, w12, w13, w14, w15, w16, w17, w18, w19, w20, w21, w22, w23, w24, w25, w26, w27, w28, w29, w30, w31, w32, w33, w34, w35, w36, w37, w38]))]) hx hb hown hE hP hD hS 1 rfl rfl rfl (Nat.le_of_ble_eq_true rfl) dX10_instrument_26 rfl (fun H locs hP hD hS => ?_)
  refine lv_aload_n hx hb dX10_instrument_29 rfl (lv_at hl 0 rfl) ?_
  refine gf_RX10_86 hx hb hown hE hP 1 rfl rfl dX10_instrument_30 ?_
  refine lv_if_le (tgt := 38) hx hb dX10_instrument_33 (by decide) (fun _ => ?_) (fun h => absurd (by decide) h)
  refine lv_iconst (v := 0) hx hb dX10_instrument_38 (by decide) ?_
  refine lv_istore_n (lv' := [(3, .int 0), (0, .ref q1), (1, .int 2), (2, .int 5)]) hx hb dX10_instrument_39 rfl hl (by decide) rfl (fun ls hl => ?_)
  refine lv_iconst (v := 0) hx hb dX10_instrument_40 (by decide) ?_
  refine lv_istore (lv' := [(4, .int 0), (3, .int 0), (0, .ref q1), (1, .int 2), (2, .int 5)]) hx hb dX10_instrument_41 hl (by decide) rfl (fun ls hl => ?_)
  refine lv_iload hx hb dX10_instrument_43 (lv_at hl 0 rfl) ?_
  refine lv_aload_n hx hb dX10_instrument_45 rfl (lv_at hl 2 rfl) ?_
  refine gf_RX10_9 hx hb hown hE hP 1 rfl rfl dX10_instrument_46 ?_
  refine lv_sipush (v := 392) hx hb dX10_instrument_49 (by decide) ?_
  refine x_iald (v := 0) hx hb hE hP 0 rfl 392 (x_in (by decide)) (by decide) hf41 dX10_instrument_52 ?_
  refine lv_icmp_ge (tgt := 81) hx hb dX10_instrument_53 (by decide) (fun _ => ?_) (fun h => absurd (by decide) h)
  refine lv_iload_n hx hb dX10_instrument_81 rfl (lv_at hl 4 rfl) ?_
  refine lv_iconst (v := 5) hx hb dX10_instrument_82 (by decide) ?_
  refine lv_icmp_ne (tgt := 90) hx hb dX10_instrument_83 (by decide) (fun h => absurd h (by decide)) (fun _ => ?_)
  refine lv_iload_n hx hb dX10_instrument_86 rfl (lv_at hl 1 rfl) ?_
  refine lv_goto (tgt := 104) hx hb dX10_instrument_87 (by decide) ?_
  exact x_zret hx hb hr rfl rfl hlocks hP hD hS hAe hsz (Nat.le_of_ble_eq_true rfl) (Nat.le_of_ble_eq_true rfl) (fun _ => 0) [1] (by decide) rfl dX10_instrument_104

set_option maxHeartbeats 4000000 in
set_option maxRecDepth 100000 in
theorem c2215_X9_instrument (l : Launch) (g : gG) (q1 q13 q17 q20 q28 : Nat) (w3 w4 w5 w6 w7 w8 w9 w10 w11 w12 w16 w21 w22 w23 w25 w26 w27 : Value) (f18 : Nat → Option Nat) (f29 : Nat → Int32) (hf19 : f18 0 = some q20) (hf30 : f29 15 = 0) (sz : Nat) : Met l yX9_instrument [Cond.code yX9_instrument cX9_instrument 4 (some .int)] ({ frames := 2, cells := 0, slots := 0, locals := 42 } : Room) (va_Pc [.ref q1, .int 3, .int 0] (PX g sz [(q28, .inl (g.2 0, 20, .inl f29)), (q20, .inr (8, [w21, w22, w23, .ref q28, w25, w26, w27])), (q17, .inl (g.2 3, 10, .inr (.inr (.inr (.inr f18))))), (q13, .inr (10, [.ref q17, .int 0, w16])), (q1, .inr (11, [.ref q13, w3, w4, w5, w6, w7, w8, w9, w10, w11, w12]))])) (QI g [(q28, .inl (g.2 0, 20, .inl f29)), (q20, .inr (8, [w21, w22, w23, .ref q28, w25, w26, w27])), (q17, .inl (g.2 3, 10, .inr (.inr (.inr (.inr f18))))), (q13, .inr (10, [.ref q17, .int 0, w16])), (q1, .inr (11, [.ref q13, w3, w4, w5, w6, w7, w8, w9, w10, w11, w12]))] sz 0 (fun _ => [(q1, .inr (11, [.ref q13, w3, w4, w5, w6, w7, w8, w9, w10, w11, w12])), (q17, .inl (g.2 3, 10, .inr (.inr (.inr (.inr f18))))), (q13, .inr (10, [.ref q17, .int 0, w16])), (q28, .inl (g.2 0, 20, .inl f29)), (q20, .inr (8, [w21, w22, w23, .ref q28, w25, w26, w27]))])) 0 0 (va_A [(q28, .inl (g.2 0, 20, .inl f29)), (q20, .inr (8, [w21, w22, w23, .ref q28, w25, w26, w27])), (q17, .inl (g.2 3, 10, .inr (.inr (.inr (.inr f18))))), (q13, .inr (10, [.ref q17, .int 0, w16])), (q1, .inr (11, [.ref q13, w3, w4, w5, w6, w7, w8, w9, w10, w11, w12]))] sz) := by
  refine ofN (by decide) (Nat.le_of_ble_eq_true rfl) rfl ?_
  intro p e s m args below meth c A ls hAe hsz hx hb hml hr hlocks hin hown hE hP hD hA hS hl
  have hown : s.vm.findClass RX9 = some m.cls := hown
  refine lv_iload_n hx hb dX9_instrument_0 rfl (lv_at hl 1 rfl) ?_
  refine g0_v (rS (rest := []) hx hb hml hown hE hP hD (c1854_X9_requireInstrument l g 3 (by decide) (by decide) s.heap.size) (kS_X9_requireInstrument hE (e991 hE) rfl rfl ⟨(Nat.le_of_ble_eq_true rfl), (Nat.le_of_ble_eq_true rfl)⟩) [] rfl (by decide) rfl hl.1 rfl (lv_room (Nat.le_of_ble_eq_true rfl)) dX9_instrument_1 ⟨(Nat.le_of_ble_eq_true rfl), (Nat.le_of_ble_eq_true rfl)⟩) hP hD hS hA (fun u9 H locs hP hS => ?_)
  refine lv_iload_n hx hb dX9_instrument_4 rfl (lv_at hl 2 rfl) ?_
  refine lv_iconst (v := 0) hx hb dX9_instrument_5 (by decide) ?_
  refine lv_iconst (v := 5) hx hb dX9_instrument_6 (by decide) ?_
  refine g0_v (rS (rest := []) hx hb hml hown hE hP hD (c968_X9_requireRange l g 0 (by decide) (by decide) H.size) (kS_X9_requireRange hE (e636 hE) rfl rfl ⟨(Nat.le_of_ble_eq_true rfl), (Nat.le_of_ble_eq_true rfl)⟩) [] rfl (by decide) rfl hl.1 rfl (lv_room (Nat.le_of_ble_eq_true rfl)) dX9_instrument_7 ⟨(Nat.le_of_ble_eq_true rfl), (Nat.le_of_ble_eq_true rfl)⟩) hP hD hS hA (fun u9 H locs hP hS => ?_)
  refine lv_aload_n hx hb dX9_instrument_10 rfl (lv_at hl 0 rfl) ?_
  refine gf_RX9_12 hx hb hown hE hP 4 rfl rfl dX9_instrument_11 ?_
  refine g_r (wr := [(q28, .inl (g.2 0, 20, .inl f29)), (q20, .inr (8, [w21, w22, w23, .ref q28, w25, w26, w27])), (q1, .inr (11, [.ref q13, w3, w4, w5, w6, w7, w8, w9, w10, w11, w12]))]) (rV (rest := []) hx hb hml hown hE hP hD 3 rfl rfl (c71_X8_current l g q13 q17 q20 w16 f18 (hf19) H.size) (kV_X8_current hE (e290 hE) rfl rfl ⟨(Nat.le_of_ble_eq_true rfl), (Nat.le_of_ble_eq_true rfl)⟩) [2, 3] rfl (by decide) rfl hl.1 rfl (lv_room (Nat.le_of_ble_eq_true rfl)) dX9_instrument_14 ⟨(Nat.le_of_ble_eq_true rfl), (Nat.le_of_ble_eq_true rfl)⟩) hP hD hS hA [2, 3] [0, 1, 4] rfl rfl (by decide) (by decide) (fun u3 H locs hP hD hS => ?_)
  have hP : va_P g.1 vwCl [(q28, .inl (g.2 0, 20, .inl f29)), (q20, .inr (8, [w21, w22, w23, .ref q28, w25, w26, w27])), (q1, .inr (11, [.ref q13, w3, w4, w5, w6, w7, w8, w9, w10, w11, w12])), (q17, .inl (g.2 3, 10, .inr (.inr (.inr (.inr f18))))), (q13, .inr (10, [.ref q17, .int 0, w16]))] H := hP
  have hD : va_D A [(q28, .inl (g.2 0, 20, .inl f29)), (q20, .inr (8, [w21, w22, w23, .ref q28, w25, w26, w27])), (q1, .inr (11, [.ref q13, w3, w4, w5, w6, w7, w8, w9, w10, w11, w12])), (q17, .inl (g.2 3, 10, .inr (.inr (.inr (.inr f18))))), (q13, .inr (10, [.ref q17, .int 0, w16]))] := hD
  refine lv_astore_n (lv' := [(3, .ref q20), (0, .ref q1), (1, .int 3), (2, .int 0)]) hx hb dX9_instrument_17 rfl hl (by decide) rfl (fun ls hl => ?_)
  refine lv_iload_n hx hb dX9_instrument_18 rfl (lv_at hl 3 rfl) ?_
  refine lv_iconst (v := 5) hx hb dX9_instrument_19 (by decide) ?_
  refine lv_icmp_ne (tgt := 29) hx hb dX9_instrument_20 (by decide) (fun _ => ?_) (fun h => absurd h (by decide))
  refine lv_aload_n hx hb dX9_instrument_29 rfl (lv_at hl 0 rfl) ?_
  refine lv_iload_n hx hb dX9_instrument_30 rfl (lv_at hl 2 rfl) ?_
  refine lv_iload_n hx hb dX9_instrument_31 rfl (lv_at hl 3 rfl) ?_
  refine g_i (wr := [(q1, .inr (11, [.ref q13, w3, w4, w5, w6, w7, w8, w9, w10, w11, w12])), (q17, .inl (g.2 3, 10, .inr (.inr (.inr (.inr f18))))), (q13, .inr (10, [.ref q17, .int 0, w16]))]) (rV (rest := []) hx hb hml hown hE hP hD 1 rfl rfl (c1894_X6_instrumentNumber l g q20 q28 w21 w22 w23 w25 w26 w27 f29 (hf30) H.size) (kV_X6_instrumentNumber hE (e1010 hE) rfl rfl ⟨(Nat.le_of_ble_eq_true rfl), (Nat.le_of_ble_eq_true rfl)⟩) [0, 1] rfl (by decide) rfl hl.1 rfl (lv_room (Nat.le_of_ble_eq_true rfl)) dX9_instrument_32 ⟨(Nat.le_of_ble_eq_true rfl), (Nat.le_of_ble_eq_true rfl)⟩) hP hD hS hA [0, 1] [2, 3, 4] rfl rfl (by decide) (by decide) (fun u4 H locs hP hD hS => ?_)
  have hP : va_P g.1 vwCl [(q1, .inr (11, [.ref q13, w3, w4, w5, w6, w7, w8, w9, w10, w11, w12])), (q17, .inl (g.2 3, 10, .inr (.inr (.inr (.inr f18))))), (q13, .inr (10, [.ref q17, .int 0, w16])), (q28, .inl (g.2 0, 20, .inl f29)), (q20, .inr (8, [w21, w22, w23, .ref q28, w25, w26, w27]))] H := hP
  have hD : va_D A [(q1, .inr (11, [.ref q13, w3, w4, w5, w6, w7, w8, w9, w10, w11, w12])), (q17, .inl (g.2 3, 10, .inr (.inr (.inr (.inr f18))))), (q13, .inr (10, [.ref q17, .int 0, w16])), (q28, .inl (g.2 0, 20, .inl f29)), (q20, .inr (8, [w21, w22, w23, .ref q28, w25, w26, w27]))] := hD
  exact x_zret hx hb hr rfl rfl hlocks hP hD hS hAe hsz (Nat.le_of_ble_eq_true rfl) (Nat.le_of_ble_eq_true rfl) (fun _ => 0) [0, 1, 2, 3, 4] (by decide) rfl dX9_instrument_35

set_option maxHeartbeats 4000000 in
set_option maxRecDepth 100000 in
theorem c2216_L_instrument (l : Launch) (g : gG) (hlx : l.stackTraces = false) (q1 q2 q14 q18 q21 q29 : Nat) (w4 w5 w6 w7 w8 w9 w10 w11 w12 w13 w17 w22 w23 w24 w26 w27 w28 : Value) (f19 : Nat → Option Nat) (f30 : Nat → Int32) (f32 : Nat → Int64) (hf20 : f19 0 = some q21) (hf31 : f30 15 = 0) (sz : Nat) : Met l yL_instrument [Cond.codeWith yL_instrument cL_instrument 5 (some .int) [(0, 10, 13, 13), (0, 10, 17, 15)]] ({ frames := 3, cells := 0, slots := 0, locals := 65 } : Room) (va_Pc [.ref q1, .int 3, .int 0, .ref q2] (PZ g sz [(q2, .inl (g.2 1, 1, .inr (.inl f32))), (q29, .inl (g.2 0, 20, .inl f30)), (q21, .inr (8, [w22, w23, w24, .ref q29, w26, w27, w28])), (q18, .inl (g.2 3, 10, .inr (.inr (.inr (.inr f19))))), (q14, .inr (10, [.ref q18, .int 0, w17])), (q1, .inr (11, [.ref q14, w4, w5, w6, w7, w8, w9, w10, w11, w12, w13]))])) (QI g [(q2, .inl (g.2 1, 1, .inr (.inl f32))), (q29, .inl (g.2 0, 20, .inl f30)), (q21, .inr (8, [w22, w23, w24, .ref q29, w26, w27, w28])), (q18, .inl (g.2 3, 10, .inr (.inr (.inr (.inr f19))))), (q14, .inr (10, [.ref q18, .int 0, w17])), (q1, .inr (11, [.ref q14, w4, w5, w6, w7, w8, w9, w10, w11, w12, w13]))] sz 0 (fun _ => [(q2, .inl (g.2 1, 1, .inr (.inl (vp_updL f32 0 0))))])) 0 0 (va_A [(q2, .inl (g.2 1, 1, .inr (.inl f32))), (q29, .inl (g.2 0, 20, .inl f30)), (q21, .inr (8, [w22, w23, w24, .ref q29, w26, w27, w28])), (q18, .inl (g.2 3, 10, .inr (.inr (.inr (.inr f19))))), (q14, .inr (10, [.ref q18, .int 0, w17])), (q1, .inr (11, [.ref q14, w4, w5, w6, w7, w8, w9, w10, w11, w12, w13]))] sz) := by
  refine ofH (by decide) (Nat.le_of_ble_eq_true rfl) rfl ?_
  intro p e s m args below meth c A ls hAe hsz hx hb hml hr hlocks hin hown hE hP hD hA hS hl htb hz
  have hown : s.vm.findClass RL = some m.cls := hown
  refine lv_aload_n hx hb dL_instrument_0 rfl (lv_at hl 3 rfl) ?_
  refine lv_iconst (v := 0) hx hb dL_instrument_1 (by decide) ?_
  refine lv_aload_n hx hb dL_instrument_2 rfl (lv_at hl 0 rfl) ?_
  refine lv_iload_n hx hb dL_instrument_3 rfl (lv_at hl 1 rfl) ?_
  refine lv_iload_n hx hb dL_instrument_4 rfl (lv_at hl 2 rfl) ?_
  refine g_i (wr := [(q2, .inl (g.2 1, 1, .inr (.inl f32)))]) (rV (rest := [.int 0, .ref q2]) hx hb hml hown hE hP hD 5 rfl rfl (c2215_X9_instrument l g q1 q14 q18 q21 q29 w4 w5 w6 w7 w8 w9 w10 w11 w12 w13 w17 w22 w23 w24 w26 w27 w28 f19 f30 (hf20) (hf31) s.heap.size) (kV_X9_instrument hE (e1015 hE) rfl rfl ⟨(Nat.le_of_ble_eq_true rfl), (Nat.le_of_ble_eq_true rfl)⟩) [1, 2, 3, 4, 5] rfl (by decide) rfl hl.1 rfl (lv_room (Nat.le_of_ble_eq_true rfl)) dL_instrument_5 ⟨(Nat.le_of_ble_eq_true rfl), (Nat.le_of_ble_eq_true rfl)⟩) hP hD hS hA [1, 2, 3, 4, 5] [0] rfl rfl (by decide) (by decide) (fun u1 H locs hP hD hS => ?_)
  have hP : va_P g.1 vwCl [(q2, .inl (g.2 1, 1, .inr (.inl f32))), (q1, .inr (11, [.ref q14, w4, w5, w6, w7, w8, w9, w10, w11, w12, w13])), (q18, .inl (g.2 3, 10, .inr (.inr (.inr (.inr f19))))), (q14, .inr (10, [.ref q18, .int 0, w17])), (q29, .inl (g.2 0, 20, .inl f30)), (q21, .inr (8, [w22, w23, w24, .ref q29, w26, w27, w28]))] H := hP
  have hD : va_D A [(q2, .inl (g.2 1, 1, .inr (.inl f32))), (q1, .inr (11, [.ref q14, w4, w5, w6, w7, w8, w9, w10, w11, w12, w13])), (q18, .inl (g.2 3, 10, .inr (.inr (.inr (.inr f19))))), (q14, .inr (10, [.ref q18, .int 0, w17])), (q29, .inl (g.2 0, 20, .inl f30)), (q21, .inr (8, [w22, w23, w24, .ref q29, w26, w27, w28]))] := hD
  refine lv_i2l (v := 0) hx hb dL_instrument_8 (by decide) ?_
  refine x_last (ws' := [(q2, .inl (g.2 1, 1, .inr (.inl (vp_updL f32 0 0)))), (q1, .inr (11, [.ref q14, w4, w5, w6, w7, w8, w9, w10, w11, w12, w13])), (q18, .inl (g.2 3, 10, .inr (.inr (.inr (.inr f19))))), (q14, .inr (10, [.ref q18, .int 0, w17])), (q29, .inl (g.2 0, 20, .inl f30)), (q21, .inr (8, [w22, w23, w24, .ref q29, w26, w27, w28]))]) hx hb hE hP hD hS 0 rfl 0 (x_in (by decide)) (by decide) dL_instrument_9 rfl (fun H locs hP hD hS => ?_)
  refine lv_goto (tgt := 21) hx hb dL_instrument_10 (by decide) ?_
  refine lv_iconst (v := 0) hx hb dL_instrument_21 (by decide) ?_
  exact x_zret hx hb hr rfl rfl hlocks hP hD hS hAe hsz (Nat.le_of_ble_eq_true rfl) (Nat.le_of_ble_eq_true rfl) (fun _ => 0) [0] (by decide) rfl dL_instrument_22

set_option maxHeartbeats 4000000 in
set_option maxRecDepth 100000 in
theorem c2217_X10_instrument (l : Launch) (g : gG) (q1 q39 : Nat) (w3 w4 w5 w6 w7 w8 w9 w10 w11 w12 w13 w14 w15 w16 w17 w18 w19 w20 w21 w22 w23 w24 w25 w26 w27 w28 w29 w30 w31 w32 w33 w34 w35 w36 w37 w38 : Value) (f40 : Nat → Int32) (hf41 : f40 392 = 0) (hf42 : f40 489 = 0) (sz : Nat) : Met l yX10_instrument [Cond.code yX10_instrument cX10_instrument 5 (some .int)] ({ frames := 2, cells := 0, slots := 0, locals := 42 } : Room) (va_Pc [.ref q1, .int 3, .int 0] (PX g sz [(q39, .inl (g.2 0, 497, .inl f40)), (q1, .inr (12, [.ref q39, w3, w4, w5, w6, w7, w8, w9, w10, w11, w12, w13, w14, w15, w16, w17, w18, w19, w20, w21, w22, w23, w24, w25, w26, w27, w28, w29, w30, w31, w32, w33, w34, w35, w36, w37, w38]))])) (QI g [(q39, .inl (g.2 0, 497, .inl f40)), (q1, .inr (12, [.ref q39, w3, w4, w5, w6, w7, w8, w9, w10, w11, w12, w13, w14, w15, w16, w17, w18, w19, w20, w21, w22, w23, w24, w25, w26, w27, w28, w29, w30, w31, w32, w33, w34, w35, w36, w37, w38]))] sz 0 (fun _ => [(q1, .inr (12, [.ref q39, w3, w4, w5, w6, w7, .int 0, w9, w10, w11, w12, w13, w14, w15, w16, w17, w18, w19, w20, w21, w22, w23, w24, w25, w26, w27, w28, w29, w30, w31, w32, w33, w34, w35, w36, w37, w38]))])) 0 0 (va_A [(q39, .inl (g.2 0, 497, .inl f40)), (q1, .inr (12, [.ref q39, w3, w4, w5, w6, w7, w8, w9, w10, w11, w12, w13, w14, w15, w16, w17, w18, w19, w20, w21, w22, w23, w24, w25, w26, w27, w28, w29, w30, w31, w32, w33, w34, w35, w36, w37, w38]))] sz) := by
  refine ofN (by decide) (Nat.le_of_ble_eq_true rfl) rfl ?_
  intro p e s m args below meth c A ls hAe hsz hx hb hml hr hlocks hin hown hE hP hD hA hS hl
  have hown : s.vm.findClass RX10 = some m.cls := hown
  refine lv_aload_n hx hb dX10_instrument_0 rfl (lv_at hl 0 rfl) ?_
  refine lv_iload_n hx hb dX10_instrument_1 rfl (lv_at hl 1 rfl) ?_
  refine g0_i (rS (rest := [.ref q1]) hx hb hml hown hE hP hD (c1857_X10_isInstrument l g 3 (by decide) (by decide) s.heap.size) (kS_X10_isInstrument hE (e1645 hE) rfl rfl ⟨(Nat.le_of_ble_eq_true rfl), (Nat.le_of_ble_eq_true rfl)⟩) [] rfl (by decide) rfl hl.1 rfl (lv_room (Nat.le_of_ble_eq_true rfl)) dX10_instrument_2 ⟨(Nat.le_of_ble_eq_true rfl), (Nat.le_of_ble_eq_true rfl)⟩) hP hD hS hA (fun u9 H locs hP hS => ?_)
  refine lv_if_ne (tgt := 12) hx hb dX10_instrument_5 (by decide) (fun _ => ?_) (fun h => absurd h (by decide))
  refine lv_iload_n hx hb dX10_instrument_12 rfl (lv_at hl 2 rfl) ?_
  refine lv_iconst (v := 0) hx hb dX10_instrument_13 (by decide) ?_
  refine lv_iconst (v := 5) hx hb dX10_instrument_14 (by decide) ?_
  refine g0_i (rS (rest := [.ref q1]) hx hb hml hown hE hP hD (c971_X10_in l g 0 (by decide) (by decide) H.size) (kS_X10_in hE (e1431 hE) rfl rfl ⟨(Nat.le_of_ble_eq_true rfl), (Nat.le_of_ble_eq_true rfl)⟩) [] rfl (by decide) rfl hl.1 rfl (lv_room (Nat.le_of_ble_eq_true rfl)) dX10_instrument_15 ⟨(Nat.le_of_ble_eq_true rfl), (Nat.le_of_ble_eq_true rfl)⟩) hP hD hS hA (fun u9 H locs hP hS => ?_)
  refine lv_if_ne (tgt := 25) hx hb dX10_instrument_18 (by decide) (fun _ => ?_) (fun h => absurd h (by decide))
  refine lv_iconst (v := 0) hx hb dX10_instrument_25 (by decide) ?_
  refine pf_RX10_86 (ws' := [(q39, .inl (g.2 0, 497, .inl f40)), (q1, .inr (12, [.ref q39, w3, w4, w5, w6, w7, .int 0, w9, w10, w11, w12, w13, w14, w15, w16, w17, w18, w19, w20, w21, w22, w23, w24, w25, w26, w27, w28, w29, w30, w31, w32, w33, w34, w35, w36, w37, w38]))]) hx hb hown hE hP hD hS 1 rfl rfl rfl (Nat.le_of_ble_eq_true rfl) dX10_instrument_26 rfl (fun H locs hP hD hS => ?_)
  refine lv_aload_n hx hb dX10_instrument_29 rfl (lv_at hl 0 rfl) ?_
  refine gf_RX10_86 hx hb hown hE hP 1 rfl rfl dX10_instrument_30 ?_
  refine lv_if_le (tgt := 38) hx hb dX10_instrument_33 (by decide) (fun _ => ?_) (fun h => absurd (by decide) h)
  refine lv_iconst (v := 0) hx hb dX10_instrument_38 (by decide) ?_
  refine lv_istore_n (lv' := [(3, .int 0), (0, .ref q1), (1, .int 3), (2, .int 0)]) hx hb dX10_instrument_39 rfl hl (by decide) rfl (fun ls hl => ?_)
  refine lv_iconst (v := 0) hx hb dX10_instrument_40 (by decide) ?_
  refine lv_istore (lv' := [(4, .int 0), (3, .int 0), (0, .ref q1), (1, .int 3), (2, .int 0)]) hx hb dX10_instrument_41 hl (by decide) rfl (fun ls hl => ?_)
  refine lv_iload hx hb dX10_instrument_43 (lv_at hl 0 rfl) ?_
  refine lv_aload_n hx hb dX10_instrument_45 rfl (lv_at hl 2 rfl) ?_
  refine gf_RX10_9 hx hb hown hE hP 1 rfl rfl dX10_instrument_46 ?_
  refine lv_sipush (v := 392) hx hb dX10_instrument_49 (by decide) ?_
  refine x_iald (v := 0) hx hb hE hP 0 rfl 392 (x_in (by decide)) (by decide) hf41 dX10_instrument_52 ?_
  refine lv_icmp_ge (tgt := 81) hx hb dX10_instrument_53 (by decide) (fun _ => ?_) (fun h => absurd (by decide) h)
  refine lv_iload_n hx hb dX10_instrument_81 rfl (lv_at hl 4 rfl) ?_
  refine lv_iconst (v := 5) hx hb dX10_instrument_82 (by decide) ?_
  refine lv_icmp_ne (tgt := 90) hx hb dX10_instrument_83 (by decide) (fun _ => ?_) (fun h => absurd h (by decide))
  refine lv_aload_n hx hb dX10_instrument_90 rfl (lv_at hl 2 rfl) ?_
  refine gf_RX10_9 hx hb hown hE hP 1 rfl rfl dX10_instrument_91 ?_
  refine lv_sipush (v := 474) hx hb dX10_instrument_94 (by decide) ?_
  refine lv_iconst (v := 5) hx hb dX10_instrument_97 (by decide) ?_
  refine lv_iload_n hx hb dX10_instrument_98 rfl (lv_at hl 3 rfl) ?_
  refine x_imul (v := 15) hx hb dX10_instrument_99 (by decide) ?_
  refine x_iadd (v := 489) hx hb dX10_instrument_100 (by decide) ?_
  refine lv_iload_n hx hb dX10_instrument_101 rfl (lv_at hl 4 rfl) ?_
  refine x_iadd (v := 489) hx hb dX10_instrument_102 (by decide) ?_
  refine x_iald (v := 0) hx hb hE hP 0 rfl 489 (x_in (by decide)) (by decide) hf42 dX10_instrument_103 ?_
  exact x_zret hx hb hr rfl rfl hlocks hP hD hS hAe hsz (Nat.le_of_ble_eq_true rfl) (Nat.le_of_ble_eq_true rfl) (fun _ => 0) [1] (by decide) rfl dX10_instrument_104

set_option maxHeartbeats 4000000 in
set_option maxRecDepth 100000 in
theorem c2218_X9_instrument (l : Launch) (g : gG) (q1 q13 q17 q20 q28 : Nat) (w3 w4 w5 w6 w7 w8 w9 w10 w11 w12 w16 w21 w22 w23 w25 w26 w27 : Value) (f18 : Nat → Option Nat) (f29 : Nat → Int32) (hf19 : f18 0 = some q20) (hf30 : f29 16 = 0) (sz : Nat) : Met l yX9_instrument [Cond.code yX9_instrument cX9_instrument 4 (some .int)] ({ frames := 2, cells := 0, slots := 0, locals := 42 } : Room) (va_Pc [.ref q1, .int 3, .int 1] (PX g sz [(q28, .inl (g.2 0, 20, .inl f29)), (q20, .inr (8, [w21, w22, w23, .ref q28, w25, w26, w27])), (q17, .inl (g.2 3, 10, .inr (.inr (.inr (.inr f18))))), (q13, .inr (10, [.ref q17, .int 0, w16])), (q1, .inr (11, [.ref q13, w3, w4, w5, w6, w7, w8, w9, w10, w11, w12]))])) (QI g [(q28, .inl (g.2 0, 20, .inl f29)), (q20, .inr (8, [w21, w22, w23, .ref q28, w25, w26, w27])), (q17, .inl (g.2 3, 10, .inr (.inr (.inr (.inr f18))))), (q13, .inr (10, [.ref q17, .int 0, w16])), (q1, .inr (11, [.ref q13, w3, w4, w5, w6, w7, w8, w9, w10, w11, w12]))] sz 0 (fun _ => [(q1, .inr (11, [.ref q13, w3, w4, w5, w6, w7, w8, w9, w10, w11, w12])), (q17, .inl (g.2 3, 10, .inr (.inr (.inr (.inr f18))))), (q13, .inr (10, [.ref q17, .int 0, w16])), (q28, .inl (g.2 0, 20, .inl f29)), (q20, .inr (8, [w21, w22, w23, .ref q28, w25, w26, w27]))])) 0 0 (va_A [(q28, .inl (g.2 0, 20, .inl f29)), (q20, .inr (8, [w21, w22, w23, .ref q28, w25, w26, w27])), (q17, .inl (g.2 3, 10, .inr (.inr (.inr (.inr f18))))), (q13, .inr (10, [.ref q17, .int 0, w16])), (q1, .inr (11, [.ref q13, w3, w4, w5, w6, w7, w8, w9, w10, w11, w12]))] sz) := by
  refine ofN (by decide) (Nat.le_of_ble_eq_true rfl) rfl ?_
  intro p e s m args below meth c A ls hAe hsz hx hb hml hr hlocks hin hown hE hP hD hA hS hl
  have hown : s.vm.findClass RX9 = some m.cls := hown
  refine lv_iload_n hx hb dX9_instrument_0 rfl (lv_at hl 1 rfl) ?_
  refine g0_v (rS (rest := []) hx hb hml hown hE hP hD (c1854_X9_requireInstrument l g 3 (by decide) (by decide) s.heap.size) (kS_X9_requireInstrument hE (e991 hE) rfl rfl ⟨(Nat.le_of_ble_eq_true rfl), (Nat.le_of_ble_eq_true rfl)⟩) [] rfl (by decide) rfl hl.1 rfl (lv_room (Nat.le_of_ble_eq_true rfl)) dX9_instrument_1 ⟨(Nat.le_of_ble_eq_true rfl), (Nat.le_of_ble_eq_true rfl)⟩) hP hD hS hA (fun u9 H locs hP hS => ?_)
  refine lv_iload_n hx hb dX9_instrument_4 rfl (lv_at hl 2 rfl) ?_
  refine lv_iconst (v := 0) hx hb dX9_instrument_5 (by decide) ?_
  refine lv_iconst (v := 5) hx hb dX9_instrument_6 (by decide) ?_
  refine g0_v (rS (rest := []) hx hb hml hown hE hP hD (c968_X9_requireRange l g 1 (by decide) (by decide) H.size) (kS_X9_requireRange hE (e636 hE) rfl rfl ⟨(Nat.le_of_ble_eq_true rfl), (Nat.le_of_ble_eq_true rfl)⟩) [] rfl (by decide) rfl hl.1 rfl (lv_room (Nat.le_of_ble_eq_true rfl)) dX9_instrument_7 ⟨(Nat.le_of_ble_eq_true rfl), (Nat.le_of_ble_eq_true rfl)⟩) hP hD hS hA (fun u9 H locs hP hS => ?_)
  refine lv_aload_n hx hb dX9_instrument_10 rfl (lv_at hl 0 rfl) ?_
  refine gf_RX9_12 hx hb hown hE hP 4 rfl rfl dX9_instrument_11 ?_
  refine g_r (wr := [(q28, .inl (g.2 0, 20, .inl f29)), (q20, .inr (8, [w21, w22, w23, .ref q28, w25, w26, w27])), (q1, .inr (11, [.ref q13, w3, w4, w5, w6, w7, w8, w9, w10, w11, w12]))]) (rV (rest := []) hx hb hml hown hE hP hD 3 rfl rfl (c71_X8_current l g q13 q17 q20 w16 f18 (hf19) H.size) (kV_X8_current hE (e290 hE) rfl rfl ⟨(Nat.le_of_ble_eq_true rfl), (Nat.le_of_ble_eq_true rfl)⟩) [2, 3] rfl (by decide) rfl hl.1 rfl (lv_room (Nat.le_of_ble_eq_true rfl)) dX9_instrument_14 ⟨(Nat.le_of_ble_eq_true rfl), (Nat.le_of_ble_eq_true rfl)⟩) hP hD hS hA [2, 3] [0, 1, 4] rfl rfl (by decide) (by decide) (fun u3 H locs hP hD hS => ?_)
  have hP : va_P g.1 vwCl [(q28, .inl (g.2 0, 20, .inl f29)), (q20, .inr (8, [w21, w22, w23, .ref q28, w25, w26, w27])), (q1, .inr (11, [.ref q13, w3, w4, w5, w6, w7, w8, w9, w10, w11, w12])), (q17, .inl (g.2 3, 10, .inr (.inr (.inr (.inr f18))))), (q13, .inr (10, [.ref q17, .int 0, w16]))] H := hP
  have hD : va_D A [(q28, .inl (g.2 0, 20, .inl f29)), (q20, .inr (8, [w21, w22, w23, .ref q28, w25, w26, w27])), (q1, .inr (11, [.ref q13, w3, w4, w5, w6, w7, w8, w9, w10, w11, w12])), (q17, .inl (g.2 3, 10, .inr (.inr (.inr (.inr f18))))), (q13, .inr (10, [.ref q17, .int 0, w16]))] := hD
  refine lv_astore_n (lv' := [(3, .ref q20), (0, .ref q1), (1, .int 3), (2, .int 1)]) hx hb dX9_instrument_17 rfl hl (by decide) rfl (fun ls hl => ?_)
  refine lv_iload_n hx hb dX9_instrument_18 rfl (lv_at hl 3 rfl) ?_
  refine lv_iconst (v := 5) hx hb dX9_instrument_19 (by decide) ?_
  refine lv_icmp_ne (tgt := 29) hx hb dX9_instrument_20 (by decide) (fun _ => ?_) (fun h => absurd h (by decide))
  refine lv_aload_n hx hb dX9_instrument_29 rfl (lv_at hl 0 rfl) ?_
  refine lv_iload_n hx hb dX9_instrument_30 rfl (lv_at hl 2 rfl) ?_
  refine lv_iload_n hx hb dX9_instrument_31 rfl (lv_at hl 3 rfl) ?_
  refine g_i (wr := [(q1, .inr (11, [.ref q13, w3, w4, w5, w6, w7, w8, w9, w10, w11, w12])), (q17, .inl (g.2 3, 10, .inr (.inr (.inr (.inr f18))))), (q13, .inr (10, [.ref q17, .int 0, w16]))]) (rV (rest := []) hx hb hml hown hE hP hD 1 rfl rfl (c1895_X6_instrumentNumber l g q20 q28 w21 w22 w23 w25 w26 w27 f29 (hf30) H.size) (kV_X6_instrumentNumber hE (e1010 hE) rfl rfl ⟨(Nat.le_of_ble_eq_true rfl), (Nat.le_of_ble_eq_true rfl)⟩) [0, 1] rfl (by decide) rfl hl.1 rfl (lv_room (Nat.le_of_ble_eq_true rfl)) dX9_instrument_32 ⟨(Nat.le_of_ble_eq_true rfl), (Nat.le_of_ble_eq_true rfl)⟩) hP hD hS hA [0, 1] [2, 3, 4] rfl rfl (by decide) (by decide) (fun u4 H locs hP hD hS => ?_)
  have hP : va_P g.1 vwCl [(q1, .inr (11, [.ref q13, w3, w4, w5, w6, w7, w8, w9, w10, w11, w12])), (q17, .inl (g.2 3, 10, .inr (.inr (.inr (.inr f18))))), (q13, .inr (10, [.ref q17, .int 0, w16])), (q28, .inl (g.2 0, 20, .inl f29)), (q20, .inr (8, [w21, w22, w23, .ref q28, w25, w26, w27]))] H := hP
  have hD : va_D A [(q1, .inr (11, [.ref q13, w3, w4, w5, w6, w7, w8, w9, w10, w11, w12])), (q17, .inl (g.2 3, 10, .inr (.inr (.inr (.inr f18))))), (q13, .inr (10, [.ref q17, .int 0, w16])), (q28, .inl (g.2 0, 20, .inl f29)), (q20, .inr (8, [w21, w22, w23, .ref q28, w25, w26, w27]))] := hD
  exact x_zret hx hb hr rfl rfl hlocks hP hD hS hAe hsz (Nat.le_of_ble_eq_true rfl) (Nat.le_of_ble_eq_true rfl) (fun _ => 0) [0, 1, 2, 3, 4] (by decide) rfl dX9_instrument_35

set_option maxHeartbeats 4000000 in
set_option maxRecDepth 100000 in
theorem c2219_L_instrument (l : Launch) (g : gG) (hlx : l.stackTraces = false) (q1 q2 q14 q18 q21 q29 : Nat) (w4 w5 w6 w7 w8 w9 w10 w11 w12 w13 w17 w22 w23 w24 w26 w27 w28 : Value) (f19 : Nat → Option Nat) (f30 : Nat → Int32) (f32 : Nat → Int64) (hf20 : f19 0 = some q21) (hf31 : f30 16 = 0) (sz : Nat) : Met l yL_instrument [Cond.codeWith yL_instrument cL_instrument 5 (some .int) [(0, 10, 13, 13), (0, 10, 17, 15)]] ({ frames := 3, cells := 0, slots := 0, locals := 65 } : Room) (va_Pc [.ref q1, .int 3, .int 1, .ref q2] (PZ g sz [(q2, .inl (g.2 1, 1, .inr (.inl f32))), (q29, .inl (g.2 0, 20, .inl f30)), (q21, .inr (8, [w22, w23, w24, .ref q29, w26, w27, w28])), (q18, .inl (g.2 3, 10, .inr (.inr (.inr (.inr f19))))), (q14, .inr (10, [.ref q18, .int 0, w17])), (q1, .inr (11, [.ref q14, w4, w5, w6, w7, w8, w9, w10, w11, w12, w13]))])) (QI g [(q2, .inl (g.2 1, 1, .inr (.inl f32))), (q29, .inl (g.2 0, 20, .inl f30)), (q21, .inr (8, [w22, w23, w24, .ref q29, w26, w27, w28])), (q18, .inl (g.2 3, 10, .inr (.inr (.inr (.inr f19))))), (q14, .inr (10, [.ref q18, .int 0, w17])), (q1, .inr (11, [.ref q14, w4, w5, w6, w7, w8, w9, w10, w11, w12, w13]))] sz 0 (fun _ => [(q2, .inl (g.2 1, 1, .inr (.inl (vp_updL f32 0 0))))])) 0 0 (va_A [(q2, .inl (g.2 1, 1, .inr (.inl f32))), (q29, .inl (g.2 0, 20, .inl f30)), (q21, .inr (8, [w22, w23, w24, .ref q29, w26, w27, w28])), (q18, .inl (g.2 3, 10, .inr (.inr (.inr (.inr f19))))), (q14, .inr (10, [.ref q18, .int 0, w17])), (q1, .inr (11, [.ref q14, w4, w5, w6, w7, w8, w9, w10, w11, w12, w13]))] sz) := by
  refine ofH (by decide) (Nat.le_of_ble_eq_true rfl) rfl ?_
  intro p e s m args below meth c A ls hAe hsz hx hb hml hr hlocks hin hown hE hP hD hA hS hl htb hz
  have hown : s.vm.findClass RL = some m.cls := hown
  refine lv_aload_n hx hb dL_instrument_0 rfl (lv_at hl 3 rfl) ?_
  refine lv_iconst (v := 0) hx hb dL_instrument_1 (by decide) ?_
  refine lv_aload_n hx hb dL_instrument_2 rfl (lv_at hl 0 rfl) ?_
  refine lv_iload_n hx hb dL_instrument_3 rfl (lv_at hl 1 rfl) ?_
  refine lv_iload_n hx hb dL_instrument_4 rfl (lv_at hl 2 rfl) ?_
  refine g_i (wr := [(q2, .inl (g.2 1, 1, .inr (.inl f32)))]) (rV (rest := [.int 0, .ref q2]) hx hb hml hown hE hP hD 5 rfl rfl (c2218_X9_instrument l g q1 q14 q18 q21 q29 w4 w5 w6 w7 w8 w9 w10 w11 w12 w13 w17 w22 w23 w24 w26 w27 w28 f19 f30 (hf20) (hf31) s.heap.size) (kV_X9_instrument hE (e1015 hE) rfl rfl ⟨(Nat.le_of_ble_eq_true rfl), (Nat.le_of_ble_eq_true rfl)⟩) [1, 2, 3, 4, 5] rfl (by decide) rfl hl.1 rfl (lv_room (Nat.le_of_ble_eq_true rfl)) dL_instrument_5 ⟨(Nat.le_of_ble_eq_true rfl), (Nat.le_of_ble_eq_true rfl)⟩) hP hD hS hA [1, 2, 3, 4, 5] [0] rfl rfl (by decide) (by decide) (fun u1 H locs hP hD hS => ?_)
  have hP : va_P g.1 vwCl [(q2, .inl (g.2 1, 1, .inr (.inl f32))), (q1, .inr (11, [.ref q14, w4, w5, w6, w7, w8, w9, w10, w11, w12, w13])), (q18, .inl (g.2 3, 10, .inr (.inr (.inr (.inr f19))))), (q14, .inr (10, [.ref q18, .int 0, w17])), (q29, .inl (g.2 0, 20, .inl f30)), (q21, .inr (8, [w22, w23, w24, .ref q29, w26, w27, w28]))] H := hP
  have hD : va_D A [(q2, .inl (g.2 1, 1, .inr (.inl f32))), (q1, .inr (11, [.ref q14, w4, w5, w6, w7, w8, w9, w10, w11, w12, w13])), (q18, .inl (g.2 3, 10, .inr (.inr (.inr (.inr f19))))), (q14, .inr (10, [.ref q18, .int 0, w17])), (q29, .inl (g.2 0, 20, .inl f30)), (q21, .inr (8, [w22, w23, w24, .ref q29, w26, w27, w28]))] := hD
  refine lv_i2l (v := 0) hx hb dL_instrument_8 (by decide) ?_
  refine x_last (ws' := [(q2, .inl (g.2 1, 1, .inr (.inl (vp_updL f32 0 0)))), (q1, .inr (11, [.ref q14, w4, w5, w6, w7, w8, w9, w10, w11, w12, w13])), (q18, .inl (g.2 3, 10, .inr (.inr (.inr (.inr f19))))), (q14, .inr (10, [.ref q18, .int 0, w17])), (q29, .inl (g.2 0, 20, .inl f30)), (q21, .inr (8, [w22, w23, w24, .ref q29, w26, w27, w28]))]) hx hb hE hP hD hS 0 rfl 0 (x_in (by decide)) (by decide) dL_instrument_9 rfl (fun H locs hP hD hS => ?_)
  refine lv_goto (tgt := 21) hx hb dL_instrument_10 (by decide) ?_
  refine lv_iconst (v := 0) hx hb dL_instrument_21 (by decide) ?_
  exact x_zret hx hb hr rfl rfl hlocks hP hD hS hAe hsz (Nat.le_of_ble_eq_true rfl) (Nat.le_of_ble_eq_true rfl) (fun _ => 0) [0] (by decide) rfl dL_instrument_22

set_option maxHeartbeats 4000000 in
set_option maxRecDepth 100000 in
theorem c2220_X10_instrument (l : Launch) (g : gG) (q1 q39 : Nat) (w3 w4 w5 w6 w7 w8 w9 w10 w11 w12 w13 w14 w15 w16 w17 w18 w19 w20 w21 w22 w23 w24 w25 w26 w27 w28 w29 w30 w31 w32 w33 w34 w35 w36 w37 w38 : Value) (f40 : Nat → Int32) (hf41 : f40 392 = 0) (hf42 : f40 490 = 0) (sz : Nat) : Met l yX10_instrument [Cond.code yX10_instrument cX10_instrument 5 (some .int)] ({ frames := 2, cells := 0, slots := 0, locals := 42 } : Room) (va_Pc [.ref q1, .int 3, .int 1] (PX g sz [(q39, .inl (g.2 0, 497, .inl f40)), (q1, .inr (12, [.ref q39, w3, w4, w5, w6, w7, w8, w9, w10, w11, w12, w13, w14, w15, w16, w17, w18, w19, w20, w21, w22, w23, w24, w25, w26, w27, w28, w29, w30, w31, w32, w33, w34, w35, w36, w37, w38]))])) (QI g [(q39, .inl (g.2 0, 497, .inl f40)), (q1, .inr (12, [.ref q39, w3, w4, w5, w6, w7, w8, w9, w10, w11, w12, w13, w14, w15, w16, w17, w18, w19, w20, w21, w22, w23, w24, w25, w26, w27, w28, w29, w30, w31, w32, w33, w34, w35, w36, w37, w38]))] sz 0 (fun _ => [(q1, .inr (12, [.ref q39, w3, w4, w5, w6, w7, .int 0, w9, w10, w11, w12, w13, w14, w15, w16, w17, w18, w19, w20, w21, w22, w23, w24, w25, w26, w27, w28, w29, w30, w31, w32, w33, w34, w35, w36, w37, w38]))])) 0 0 (va_A [(q39, .inl (g.2 0, 497, .inl f40)), (q1, .inr (12, [.ref q39, w3, w4, w5, w6, w7, w8, w9, w10, w11, w12, w13, w14, w15, w16, w17, w18, w19, w20, w21, w22, w23, w24, w25, w26, w27, w28, w29, w30, w31, w32, w33, w34, w35, w36, w37, w38]))] sz) := by
  refine ofN (by decide) (Nat.le_of_ble_eq_true rfl) rfl ?_
  intro p e s m args below meth c A ls hAe hsz hx hb hml hr hlocks hin hown hE hP hD hA hS hl
  have hown : s.vm.findClass RX10 = some m.cls := hown
  refine lv_aload_n hx hb dX10_instrument_0 rfl (lv_at hl 0 rfl) ?_
  refine lv_iload_n hx hb dX10_instrument_1 rfl (lv_at hl 1 rfl) ?_
  refine g0_i (rS (rest := [.ref q1]) hx hb hml hown hE hP hD (c1857_X10_isInstrument l g 3 (by decide) (by decide) s.heap.size) (kS_X10_isInstrument hE (e1645 hE) rfl rfl ⟨(Nat.le_of_ble_eq_true rfl), (Nat.le_of_ble_eq_true rfl)⟩) [] rfl (by decide) rfl hl.1 rfl (lv_room (Nat.le_of_ble_eq_true rfl)) dX10_instrument_2 ⟨(Nat.le_of_ble_eq_true rfl), (Nat.le_of_ble_eq_true rfl)⟩) hP hD hS hA (fun u9 H locs hP hS => ?_)
  refine lv_if_ne (tgt := 12) hx hb dX10_instrument_5 (by decide) (fun _ => ?_) (fun h => absurd h (by decide))
  refine lv_iload_n hx hb dX10_instrument_12 rfl (lv_at hl 2 rfl) ?_
  refine lv_iconst (v := 0) hx hb dX10_instrument_13 (by decide) ?_
  refine lv_iconst (v := 5) hx hb dX10_instrument_14 (by decide) ?_
  refine g0_i (rS (rest := [.ref q1]) hx hb hml hown hE hP hD (c971_X10_in l g 1 (by decide) (by decide) H.size) (kS_X10_in hE (e1431 hE) rfl rfl ⟨(Nat.le_of_ble_eq_true rfl), (Nat.le_of_ble_eq_true rfl)⟩) [] rfl (by decide) rfl hl.1 rfl (lv_room (Nat.le_of_ble_eq_true rfl)) dX10_instrument_15 ⟨(Nat.le_of_ble_eq_true rfl), (Nat.le_of_ble_eq_true rfl)⟩) hP hD hS hA (fun u9 H locs hP hS => ?_)
  refine lv_if_ne (tgt := 25) hx hb dX10_instrument_18 (by decide) (fun _ => ?_) (fun h => absurd h (by decide))
  refine lv_iconst (v := 0) hx hb dX10_instrument_25 (by decide) ?_
  refine pf_RX10_86 (ws' := [(q39, .inl (g.2 0, 497, .inl f40)), (q1, .inr (12, [.ref q39, w3, w4, w5, w6, w7, .int 0, w9, w10, w11, w12, w13, w14, w15, w16, w17, w18, w19, w20, w21, w22, w23, w24, w25, w26, w27, w28, w29, w30, w31, w32, w33, w34, w35, w36, w37, w38]))]) hx hb hown hE hP hD hS 1 rfl rfl rfl (Nat.le_of_ble_eq_true rfl) dX10_instrument_26 rfl (fun H locs hP hD hS => ?_)
  refine lv_aload_n hx hb dX10_instrument_29 rfl (lv_at hl 0 rfl) ?_
  refine gf_RX10_86 hx hb hown hE hP 1 rfl rfl dX10_instrument_30 ?_
  refine lv_if_le (tgt := 38) hx hb dX10_instrument_33 (by decide) (fun _ => ?_) (fun h => absurd (by decide) h)
  refine lv_iconst (v := 0) hx hb dX10_instrument_38 (by decide) ?_
  refine lv_istore_n (lv' := [(3, .int 0), (0, .ref q1), (1, .int 3), (2, .int 1)]) hx hb dX10_instrument_39 rfl hl (by decide) rfl (fun ls hl => ?_)
  refine lv_iconst (v := 0) hx hb dX10_instrument_40 (by decide) ?_
  refine lv_istore (lv' := [(4, .int 0), (3, .int 0), (0, .ref q1), (1, .int 3), (2, .int 1)]) hx hb dX10_instrument_41 hl (by decide) rfl (fun ls hl => ?_)
  refine lv_iload hx hb dX10_instrument_43 (lv_at hl 0 rfl) ?_
  refine lv_aload_n hx hb dX10_instrument_45 rfl (lv_at hl 2 rfl) ?_
  refine gf_RX10_9 hx hb hown hE hP 1 rfl rfl dX10_instrument_46 ?_
  refine lv_sipush (v := 392) hx hb dX10_instrument_49 (by decide) ?_
  refine x_iald (v := 0) hx hb hE hP 0 rfl 392 (x_in (by decide)) (by decide) hf41 dX10_instrument_52 ?_
  refine lv_icmp_ge (tgt := 81) hx hb dX10_instrument_53 (by decide) (fun _ => ?_) (fun h => absurd (by decide) h)
  refine lv_iload_n hx hb dX10_instrument_81 rfl (lv_at hl 4 rfl) ?_
  refine lv_iconst (v := 5) hx hb dX10_instrument_82 (by decide) ?_
  refine lv_icmp_ne (tgt := 90) hx hb dX10_instrument_83 (by decide) (fun _ => ?_) (fun h => absurd h (by decide))
  refine lv_aload_n hx hb dX10_instrument_90 rfl (lv_at hl 2 rfl) ?_
  refine gf_RX10_9 hx hb hown hE hP 1 rfl rfl dX10_instrument_91 ?_
  refine lv_sipush (v := 474) hx hb dX10_instrument_94 (by decide) ?_
  refine lv_iconst (v := 5) hx hb dX10_instrument_97 (by decide) ?_
  refine lv_iload_n hx hb dX10_instrument_98 rfl (lv_at hl 3 rfl) ?_
  refine x_imul (v := 15) hx hb dX10_instrument_99 (by decide) ?_
  refine x_iadd (v := 489) hx hb dX10_instrument_100 (by decide) ?_
  refine lv_iload_n hx hb dX10_instrument_101 rfl (lv_at hl 4 rfl) ?_
  refine x_iadd (v := 490) hx hb dX10_instrument_102 (by decide) ?_
  refine x_iald (v := 0) hx hb hE hP 0 rfl 490 (x_in (by decide)) (by decide) hf42 dX10_instrument_103 ?_
  exact x_zret hx hb hr rfl rfl hlocks hP hD hS hAe hsz (Nat.le_of_ble_eq_true rfl) (Nat.le_of_ble_eq_true rfl) (fun _ => 0) [1] (by decide) rfl dX10_instrument_104

set_option maxHeartbeats 4000000 in
set_option maxRecDepth 100000 in
theorem c2221_X9_instrument (l : Launch) (g : gG) (q1 q13 q17 q20 q28 : Nat) (w3 w4 w5 w6 w7 w8 w9 w10 w11 w12 w16 w21 w22 w23 w25 w26 w27 : Value) (f18 : Nat → Option Nat) (f29 : Nat → Int32) (hf19 : f18 0 = some q20) (hf30 : f29 17 = 100) (sz : Nat) : Met l yX9_instrument [Cond.code yX9_instrument cX9_instrument 4 (some .int)] ({ frames := 2, cells := 0, slots := 0, locals := 42 } : Room) (va_Pc [.ref q1, .int 3, .int 2] (PX g sz [(q28, .inl (g.2 0, 20, .inl f29)), (q20, .inr (8, [w21, w22, w23, .ref q28, w25, w26, w27])), (q17, .inl (g.2 3, 10, .inr (.inr (.inr (.inr f18))))), (q13, .inr (10, [.ref q17, .int 0, w16])), (q1, .inr (11, [.ref q13, w3, w4, w5, w6, w7, w8, w9, w10, w11, w12]))])) (QI g [(q28, .inl (g.2 0, 20, .inl f29)), (q20, .inr (8, [w21, w22, w23, .ref q28, w25, w26, w27])), (q17, .inl (g.2 3, 10, .inr (.inr (.inr (.inr f18))))), (q13, .inr (10, [.ref q17, .int 0, w16])), (q1, .inr (11, [.ref q13, w3, w4, w5, w6, w7, w8, w9, w10, w11, w12]))] sz 100 (fun _ => [(q1, .inr (11, [.ref q13, w3, w4, w5, w6, w7, w8, w9, w10, w11, w12])), (q17, .inl (g.2 3, 10, .inr (.inr (.inr (.inr f18))))), (q13, .inr (10, [.ref q17, .int 0, w16])), (q28, .inl (g.2 0, 20, .inl f29)), (q20, .inr (8, [w21, w22, w23, .ref q28, w25, w26, w27]))])) 0 0 (va_A [(q28, .inl (g.2 0, 20, .inl f29)), (q20, .inr (8, [w21, w22, w23, .ref q28, w25, w26, w27])), (q17, .inl (g.2 3, 10, .inr (.inr (.inr (.inr f18))))), (q13, .inr (10, [.ref q17, .int 0, w16])), (q1, .inr (11, [.ref q13, w3, w4, w5, w6, w7, w8, w9, w10, w11, w12]))] sz) := by
  refine ofN (by decide) (Nat.le_of_ble_eq_true rfl) rfl ?_
  intro p e s m args below meth c A ls hAe hsz hx hb hml hr hlocks hin hown hE hP hD hA hS hl
  have hown : s.vm.findClass RX9 = some m.cls := hown
  refine lv_iload_n hx hb dX9_instrument_0 rfl (lv_at hl 1 rfl) ?_
  refine g0_v (rS (rest := []) hx hb hml hown hE hP hD (c1854_X9_requireInstrument l g 3 (by decide) (by decide) s.heap.size) (kS_X9_requireInstrument hE (e991 hE) rfl rfl ⟨(Nat.le_of_ble_eq_true rfl), (Nat.le_of_ble_eq_true rfl)⟩) [] rfl (by decide) rfl hl.1 rfl (lv_room (Nat.le_of_ble_eq_true rfl)) dX9_instrument_1 ⟨(Nat.le_of_ble_eq_true rfl), (Nat.le_of_ble_eq_true rfl)⟩) hP hD hS hA (fun u9 H locs hP hS => ?_)
  refine lv_iload_n hx hb dX9_instrument_4 rfl (lv_at hl 2 rfl) ?_
  refine lv_iconst (v := 0) hx hb dX9_instrument_5 (by decide) ?_
  refine lv_iconst (v := 5) hx hb dX9_instrument_6 (by decide) ?_
  refine g0_v (rS (rest := []) hx hb hml hown hE hP hD (c968_X9_requireRange l g 2 (by decide) (by decide) H.size) (kS_X9_requireRange hE (e636 hE) rfl rfl ⟨(Nat.le_of_ble_eq_true rfl), (Nat.le_of_ble_eq_true rfl)⟩) [] rfl (by decide) rfl hl.1 rfl (lv_room (Nat.le_of_ble_eq_true rfl)) dX9_instrument_7 ⟨(Nat.le_of_ble_eq_true rfl), (Nat.le_of_ble_eq_true rfl)⟩) hP hD hS hA (fun u9 H locs hP hS => ?_)
  refine lv_aload_n hx hb dX9_instrument_10 rfl (lv_at hl 0 rfl) ?_
  refine gf_RX9_12 hx hb hown hE hP 4 rfl rfl dX9_instrument_11 ?_
  refine g_r (wr := [(q28, .inl (g.2 0, 20, .inl f29)), (q20, .inr (8, [w21, w22, w23, .ref q28, w25, w26, w27])), (q1, .inr (11, [.ref q13, w3, w4, w5, w6, w7, w8, w9, w10, w11, w12]))]) (rV (rest := []) hx hb hml hown hE hP hD 3 rfl rfl (c71_X8_current l g q13 q17 q20 w16 f18 (hf19) H.size) (kV_X8_current hE (e290 hE) rfl rfl ⟨(Nat.le_of_ble_eq_true rfl), (Nat.le_of_ble_eq_true rfl)⟩) [2, 3] rfl (by decide) rfl hl.1 rfl (lv_room (Nat.le_of_ble_eq_true rfl)) dX9_instrument_14 ⟨(Nat.le_of_ble_eq_true rfl), (Nat.le_of_ble_eq_true rfl)⟩) hP hD hS hA [2, 3] [0, 1, 4] rfl rfl (by decide) (by decide) (fun u3 H locs hP hD hS => ?_)
  have hP : va_P g.1 vwCl [(q28, .inl (g.2 0, 20, .inl f29)), (q20, .inr (8, [w21, w22, w23, .ref q28, w25, w26, w27])), (q1, .inr (11, [.ref q13, w3, w4, w5, w6, w7, w8, w9, w10, w11, w12])), (q17, .inl (g.2 3, 10, .inr (.inr (.inr (.inr f18))))), (q13, .inr (10, [.ref q17, .int 0, w16]))] H := hP
  have hD : va_D A [(q28, .inl (g.2 0, 20, .inl f29)), (q20, .inr (8, [w21, w22, w23, .ref q28, w25, w26, w27])), (q1, .inr (11, [.ref q13, w3, w4, w5, w6, w7, w8, w9, w10, w11, w12])), (q17, .inl (g.2 3, 10, .inr (.inr (.inr (.inr f18))))), (q13, .inr (10, [.ref q17, .int 0, w16]))] := hD
  refine lv_astore_n (lv' := [(3, .ref q20), (0, .ref q1), (1, .int 3), (2, .int 2)]) hx hb dX9_instrument_17 rfl hl (by decide) rfl (fun ls hl => ?_)
  refine lv_iload_n hx hb dX9_instrument_18 rfl (lv_at hl 3 rfl) ?_
  refine lv_iconst (v := 5) hx hb dX9_instrument_19 (by decide) ?_
  refine lv_icmp_ne (tgt := 29) hx hb dX9_instrument_20 (by decide) (fun _ => ?_) (fun h => absurd h (by decide))
  refine lv_aload_n hx hb dX9_instrument_29 rfl (lv_at hl 0 rfl) ?_
  refine lv_iload_n hx hb dX9_instrument_30 rfl (lv_at hl 2 rfl) ?_
  refine lv_iload_n hx hb dX9_instrument_31 rfl (lv_at hl 3 rfl) ?_
  refine g_i (wr := [(q1, .inr (11, [.ref q13, w3, w4, w5, w6, w7, w8, w9, w10, w11, w12])), (q17, .inl (g.2 3, 10, .inr (.inr (.inr (.inr f18))))), (q13, .inr (10, [.ref q17, .int 0, w16]))]) (rV (rest := []) hx hb hml hown hE hP hD 1 rfl rfl (c1896_X6_instrumentNumber l g q20 q28 w21 w22 w23 w25 w26 w27 f29 (hf30) H.size) (kV_X6_instrumentNumber hE (e1010 hE) rfl rfl ⟨(Nat.le_of_ble_eq_true rfl), (Nat.le_of_ble_eq_true rfl)⟩) [0, 1] rfl (by decide) rfl hl.1 rfl (lv_room (Nat.le_of_ble_eq_true rfl)) dX9_instrument_32 ⟨(Nat.le_of_ble_eq_true rfl), (Nat.le_of_ble_eq_true rfl)⟩) hP hD hS hA [0, 1] [2, 3, 4] rfl rfl (by decide) (by decide) (fun u4 H locs hP hD hS => ?_)
  have hP : va_P g.1 vwCl [(q1, .inr (11, [.ref q13, w3, w4, w5, w6, w7, w8, w9, w10, w11, w12])), (q17, .inl (g.2 3, 10, .inr (.inr (.inr (.inr f18))))), (q13, .inr (10, [.ref q17, .int 0, w16])), (q28, .inl (g.2 0, 20, .inl f29)), (q20, .inr (8, [w21, w22, w23, .ref q28, w25, w26, w27]))] H := hP
  have hD : va_D A [(q1, .inr (11, [.ref q13, w3, w4, w5, w6, w7, w8, w9, w10, w11, w12])), (q17, .inl (g.2 3, 10, .inr (.inr (.inr (.inr f18))))), (q13, .inr (10, [.ref q17, .int 0, w16])), (q28, .inl (g.2 0, 20, .inl f29)), (q20, .inr (8, [w21, w22, w23, .ref q28, w25, w26, w27]))] := hD
  exact x_zret hx hb hr rfl rfl hlocks hP hD hS hAe hsz (Nat.le_of_ble_eq_true rfl) (Nat.le_of_ble_eq_true rfl) (fun _ => 0) [0, 1, 2, 3, 4] (by decide) rfl dX9_instrument_35

set_option maxHeartbeats 4000000 in
set_option maxRecDepth 100000 in
theorem c2222_L_instrument (l : Launch) (g : gG) (hlx : l.stackTraces = false) (q1 q2 q14 q18 q21 q29 : Nat) (w4 w5 w6 w7 w8 w9 w10 w11 w12 w13 w17 w22 w23 w24 w26 w27 w28 : Value) (f19 : Nat → Option Nat) (f30 : Nat → Int32) (f32 : Nat → Int64) (hf20 : f19 0 = some q21) (hf31 : f30 17 = 100) (sz : Nat) : Met l yL_instrument [Cond.codeWith yL_instrument cL_instrument 5 (some .int) [(0, 10, 13, 13), (0, 10, 17, 15)]] ({ frames := 3, cells := 0, slots := 0, locals := 65 } : Room) (va_Pc [.ref q1, .int 3, .int 2, .ref q2] (PZ g sz [(q2, .inl (g.2 1, 1, .inr (.inl f32))), (q29, .inl (g.2 0, 20, .inl f30)), (q21, .inr (8, [w22, w23, w24, .ref q29, w26, w27, w28])), (q18, .inl (g.2 3, 10, .inr (.inr (.inr (.inr f19))))), (q14, .inr (10, [.ref q18, .int 0, w17])), (q1, .inr (11, [.ref q14, w4, w5, w6, w7, w8, w9, w10, w11, w12, w13]))])) (QI g [(q2, .inl (g.2 1, 1, .inr (.inl f32))), (q29, .inl (g.2 0, 20, .inl f30)), (q21, .inr (8, [w22, w23, w24, .ref q29, w26, w27, w28])), (q18, .inl (g.2 3, 10, .inr (.inr (.inr (.inr f19))))), (q14, .inr (10, [.ref q18, .int 0, w17])), (q1, .inr (11, [.ref q14, w4, w5, w6, w7, w8, w9, w10, w11, w12, w13]))] sz 0 (fun _ => [(q2, .inl (g.2 1, 1, .inr (.inl (vp_updL f32 0 100))))])) 0 0 (va_A [(q2, .inl (g.2 1, 1, .inr (.inl f32))), (q29, .inl (g.2 0, 20, .inl f30)), (q21, .inr (8, [w22, w23, w24, .ref q29, w26, w27, w28])), (q18, .inl (g.2 3, 10, .inr (.inr (.inr (.inr f19))))), (q14, .inr (10, [.ref q18, .int 0, w17])), (q1, .inr (11, [.ref q14, w4, w5, w6, w7, w8, w9, w10, w11, w12, w13]))] sz) := by
  refine ofH (by decide) (Nat.le_of_ble_eq_true rfl) rfl ?_
  intro p e s m args below meth c A ls hAe hsz hx hb hml hr hlocks hin hown hE hP hD hA hS hl htb hz
  have hown : s.vm.findClass RL = some m.cls := hown
  refine lv_aload_n hx hb dL_instrument_0 rfl (lv_at hl 3 rfl) ?_
  refine lv_iconst (v := 0) hx hb dL_instrument_1 (by decide) ?_
  refine lv_aload_n hx hb dL_instrument_2 rfl (lv_at hl 0 rfl) ?_
  refine lv_iload_n hx hb dL_instrument_3 rfl (lv_at hl 1 rfl) ?_
  refine lv_iload_n hx hb dL_instrument_4 rfl (lv_at hl 2 rfl) ?_
  refine g_i (wr := [(q2, .inl (g.2 1, 1, .inr (.inl f32)))]) (rV (rest := [.int 0, .ref q2]) hx hb hml hown hE hP hD 5 rfl rfl (c2221_X9_instrument l g q1 q14 q18 q21 q29 w4 w5 w6 w7 w8 w9 w10 w11 w12 w13 w17 w22 w23 w24 w26 w27 w28 f19 f30 (hf20) (hf31) s.heap.size) (kV_X9_instrument hE (e1015 hE) rfl rfl ⟨(Nat.le_of_ble_eq_true rfl), (Nat.le_of_ble_eq_true rfl)⟩) [1, 2, 3, 4, 5] rfl (by decide) rfl hl.1 rfl (lv_room (Nat.le_of_ble_eq_true rfl)) dL_instrument_5 ⟨(Nat.le_of_ble_eq_true rfl), (Nat.le_of_ble_eq_true rfl)⟩) hP hD hS hA [1, 2, 3, 4, 5] [0] rfl rfl (by decide) (by decide) (fun u1 H locs hP hD hS => ?_)
  have hP : va_P g.1 vwCl [(q2, .inl (g.2 1, 1, .inr (.inl f32))), (q1, .inr (11, [.ref q14, w4, w5, w6, w7, w8, w9, w10, w11, w12, w13])), (q18, .inl (g.2 3, 10, .inr (.inr (.inr (.inr f19))))), (q14, .inr (10, [.ref q18, .int 0, w17])), (q29, .inl (g.2 0, 20, .inl f30)), (q21, .inr (8, [w22, w23, w24, .ref q29, w26, w27, w28]))] H := hP
  have hD : va_D A [(q2, .inl (g.2 1, 1, .inr (.inl f32))), (q1, .inr (11, [.ref q14, w4, w5, w6, w7, w8, w9, w10, w11, w12, w13])), (q18, .inl (g.2 3, 10, .inr (.inr (.inr (.inr f19))))), (q14, .inr (10, [.ref q18, .int 0, w17])), (q29, .inl (g.2 0, 20, .inl f30)), (q21, .inr (8, [w22, w23, w24, .ref q29, w26, w27, w28]))] := hD
  refine lv_i2l (v := 100) hx hb dL_instrument_8 (by decide) ?_
  refine x_last (ws' := [(q2, .inl (g.2 1, 1, .inr (.inl (vp_updL f32 0 100)))), (q1, .inr (11, [.ref q14, w4, w5, w6, w7, w8, w9, w10, w11, w12, w13])), (q18, .inl (g.2 3, 10, .inr (.inr (.inr (.inr f19))))), (q14, .inr (10, [.ref q18, .int 0, w17])), (q29, .inl (g.2 0, 20, .inl f30)), (q21, .inr (8, [w22, w23, w24, .ref q29, w26, w27, w28]))]) hx hb hE hP hD hS 0 rfl 0 (x_in (by decide)) (by decide) dL_instrument_9 rfl (fun H locs hP hD hS => ?_)
  refine lv_goto (tgt := 21) hx hb dL_instrument_10 (by decide) ?_
  refine lv_iconst (v := 0) hx hb dL_instrument_21 (by decide) ?_
  exact x_zret hx hb hr rfl rfl hlocks hP hD hS hAe hsz (Nat.le_of_ble_eq_true rfl) (Nat.le_of_ble_eq_true rfl) (fun _ => 0) [0] (by decide) rfl dL_instrument_22

set_option maxHeartbeats 4000000 in
set_option maxRecDepth 100000 in
theorem c2223_X10_instrument (l : Launch) (g : gG) (q1 q39 : Nat) (w3 w4 w5 w6 w7 w8 w9 w10 w11 w12 w13 w14 w15 w16 w17 w18 w19 w20 w21 w22 w23 w24 w25 w26 w27 w28 w29 w30 w31 w32 w33 w34 w35 w36 w37 w38 : Value) (f40 : Nat → Int32) (hf41 : f40 392 = 0) (hf42 : f40 491 = 100) (sz : Nat) : Met l yX10_instrument [Cond.code yX10_instrument cX10_instrument 5 (some .int)] ({ frames := 2, cells := 0, slots := 0, locals := 42 } : Room) (va_Pc [.ref q1, .int 3, .int 2] (PX g sz [(q39, .inl (g.2 0, 497, .inl f40)), (q1, .inr (12, [.ref q39, w3, w4, w5, w6, w7, w8, w9, w10, w11, w12, w13, w14, w15, w16, w17, w18, w19, w20, w21, w22, w23, w24, w25, w26, w27, w28, w29, w30, w31, w32, w33, w34, w35, w36, w37, w38]))])) (QI g [(q39, .inl (g.2 0, 497, .inl f40)), (q1, .inr (12, [.ref q39, w3, w4, w5, w6, w7, w8, w9, w10, w11, w12, w13, w14, w15, w16, w17, w18, w19, w20, w21, w22, w23, w24, w25, w26, w27, w28, w29, w30, w31, w32, w33, w34, w35, w36, w37, w38]))] sz 100 (fun _ => [(q1, .inr (12, [.ref q39, w3, w4, w5, w6, w7, .int 0, w9, w10, w11, w12, w13, w14, w15, w16, w17, w18, w19, w20, w21, w22, w23, w24, w25, w26, w27, w28, w29, w30, w31, w32, w33, w34, w35, w36, w37, w38]))])) 0 0 (va_A [(q39, .inl (g.2 0, 497, .inl f40)), (q1, .inr (12, [.ref q39, w3, w4, w5, w6, w7, w8, w9, w10, w11, w12, w13, w14, w15, w16, w17, w18, w19, w20, w21, w22, w23, w24, w25, w26, w27, w28, w29, w30, w31, w32, w33, w34, w35, w36, w37, w38]))] sz) := by
  refine ofN (by decide) (Nat.le_of_ble_eq_true rfl) rfl ?_
  intro p e s m args below meth c A ls hAe hsz hx hb hml hr hlocks hin hown hE hP hD hA hS hl
  have hown : s.vm.findClass RX10 = some m.cls := hown
  refine lv_aload_n hx hb dX10_instrument_0 rfl (lv_at hl 0 rfl) ?_
  refine lv_iload_n hx hb dX10_instrument_1 rfl (lv_at hl 1 rfl) ?_
  refine g0_i (rS (rest := [.ref q1]) hx hb hml hown hE hP hD (c1857_X10_isInstrument l g 3 (by decide) (by decide) s.heap.size) (kS_X10_isInstrument hE (e1645 hE) rfl rfl ⟨(Nat.le_of_ble_eq_true rfl), (Nat.le_of_ble_eq_true rfl)⟩) [] rfl (by decide) rfl hl.1 rfl (lv_room (Nat.le_of_ble_eq_true rfl)) dX10_instrument_2 ⟨(Nat.le_of_ble_eq_true rfl), (Nat.le_of_ble_eq_true rfl)⟩) hP hD hS hA (fun u9 H locs hP hS => ?_)
  refine lv_if_ne (tgt := 12) hx hb dX10_instrument_5 (by decide) (fun _ => ?_) (fun h => absurd h (by decide))
  refine lv_iload_n hx hb dX10_instrument_12 rfl (lv_at hl 2 rfl) ?_
  refine lv_iconst (v := 0) hx hb dX10_instrument_13 (by decide) ?_
  refine lv_iconst (v := 5) hx hb dX10_instrument_14 (by decide) ?_
  refine g0_i (rS (rest := [.ref q1]) hx hb hml hown hE hP hD (c971_X10_in l g 2 (by decide) (by decide) H.size) (kS_X10_in hE (e1431 hE) rfl rfl ⟨(Nat.le_of_ble_eq_true rfl), (Nat.le_of_ble_eq_true rfl)⟩) [] rfl (by decide) rfl hl.1 rfl (lv_room (Nat.le_of_ble_eq_true rfl)) dX10_instrument_15 ⟨(Nat.le_of_ble_eq_true rfl), (Nat.le_of_ble_eq_true rfl)⟩) hP hD hS hA (fun u9 H locs hP hS => ?_)
  refine lv_if_ne (tgt := 25) hx hb dX10_instrument_18 (by decide) (fun _ => ?_) (fun h => absurd h (by decide))
  refine lv_iconst (v := 0) hx hb dX10_instrument_25 (by decide) ?_
  refine pf_RX10_86 (ws' := [(q39, .inl (g.2 0, 497, .inl f40)), (q1, .inr (12, [.ref q39, w3, w4, w5, w6, w7, .int 0, w9, w10, w11, w12, w13, w14, w15, w16, w17, w18, w19, w20, w21, w22, w23, w24, w25, w26, w27, w28, w29, w30, w31, w32, w33, w34, w35, w36, w37, w38]))]) hx hb hown hE hP hD hS 1 rfl rfl rfl (Nat.le_of_ble_eq_true rfl) dX10_instrument_26 rfl (fun H locs hP hD hS => ?_)
  refine lv_aload_n hx hb dX10_instrument_29 rfl (lv_at hl 0 rfl) ?_
  refine gf_RX10_86 hx hb hown hE hP 1 rfl rfl dX10_instrument_30 ?_
  refine lv_if_le (tgt := 38) hx hb dX10_instrument_33 (by decide) (fun _ => ?_) (fun h => absurd (by decide) h)
  refine lv_iconst (v := 0) hx hb dX10_instrument_38 (by decide) ?_
  refine lv_istore_n (lv' := [(3, .int 0), (0, .ref q1), (1, .int 3), (2, .int 2)]) hx hb dX10_instrument_39 rfl hl (by decide) rfl (fun ls hl => ?_)
  refine lv_iconst (v := 0) hx hb dX10_instrument_40 (by decide) ?_
  refine lv_istore (lv' := [(4, .int 0), (3, .int 0), (0, .ref q1), (1, .int 3), (2, .int 2)]) hx hb dX10_instrument_41 hl (by decide) rfl (fun ls hl => ?_)
  refine lv_iload hx hb dX10_instrument_43 (lv_at hl 0 rfl) ?_
  refine lv_aload_n hx hb dX10_instrument_45 rfl (lv_at hl 2 rfl) ?_
  refine gf_RX10_9 hx hb hown hE hP 1 rfl rfl dX10_instrument_46 ?_
  refine lv_sipush (v := 392) hx hb dX10_instrument_49 (by decide) ?_
  refine x_iald (v := 0) hx hb hE hP 0 rfl 392 (x_in (by decide)) (by decide) hf41 dX10_instrument_52 ?_
  refine lv_icmp_ge (tgt := 81) hx hb dX10_instrument_53 (by decide) (fun _ => ?_) (fun h => absurd (by decide) h)
  refine lv_iload_n hx hb dX10_instrument_81 rfl (lv_at hl 4 rfl) ?_
  refine lv_iconst (v := 5) hx hb dX10_instrument_82 (by decide) ?_
  refine lv_icmp_ne (tgt := 90) hx hb dX10_instrument_83 (by decide) (fun _ => ?_) (fun h => absurd h (by decide))
  refine lv_aload_n hx hb dX10_instrument_90 rfl (lv_at hl 2 rfl) ?_
  refine gf_RX10_9 hx hb hown hE hP 1 rfl rfl dX10_instrument_91 ?_
  refine lv_sipush (v := 474) hx hb dX10_instrument_94 (by decide) ?_
  refine lv_iconst (v := 5) hx hb dX10_instrument_97 (by decide) ?_
  refine lv_iload_n hx hb dX10_instrument_98 rfl (lv_at hl 3 rfl) ?_
  refine x_imul (v := 15) hx hb dX10_instrument_99 (by decide) ?_
  refine x_iadd (v := 489) hx hb dX10_instrument_100 (by decide) ?_
  refine lv_iload_n hx hb dX10_instrument_101 rfl (lv_at hl 4 rfl) ?_
  refine x_iadd (v := 491) hx hb dX10_instrument_102 (by decide) ?_
  refine x_iald (v := 100) hx hb hE hP 0 rfl 491 (x_in (by decide)) (by decide) hf42 dX10_instrument_103 ?_
  exact x_zret hx hb hr rfl rfl hlocks hP hD hS hAe hsz (Nat.le_of_ble_eq_true rfl) (Nat.le_of_ble_eq_true rfl) (fun _ => 0) [1] (by decide) rfl dX10_instrument_104

set_option maxHeartbeats 4000000 in
set_option maxRecDepth 100000 in
theorem c2224_X9_instrument (l : Launch) (g : gG) (q1 q13 q17 q20 q28 : Nat) (w3 w4 w5 w6 w7 w8 w9 w10 w11 w12 w16 w21 w22 w23 w25 w26 w27 : Value) (f18 : Nat → Option Nat) (f29 : Nat → Int32) (hf19 : f18 0 = some q20) (hf30 : f29 18 = 0) (sz : Nat) : Met l yX9_instrument [Cond.code yX9_instrument cX9_instrument 4 (some .int)] ({ frames := 2, cells := 0, slots := 0, locals := 42 } : Room) (va_Pc [.ref q1, .int 3, .int 3] (PX g sz [(q28, .inl (g.2 0, 20, .inl f29)), (q20, .inr (8, [w21, w22, w23, .ref q28, w25, w26, w27])), (q17, .inl (g.2 3, 10, .inr (.inr (.inr (.inr f18))))), (q13, .inr (10, [.ref q17, .int 0, w16])), (q1, .inr (11, [.ref q13, w3, w4, w5, w6, w7, w8, w9, w10, w11, w12]))])) (QI g [(q28, .inl (g.2 0, 20, .inl f29)), (q20, .inr (8, [w21, w22, w23, .ref q28, w25, w26, w27])), (q17, .inl (g.2 3, 10, .inr (.inr (.inr (.inr f18))))), (q13, .inr (10, [.ref q17, .int 0, w16])), (q1, .inr (11, [.ref q13, w3, w4, w5, w6, w7, w8, w9, w10, w11, w12]))] sz 0 (fun _ => [(q1, .inr (11, [.ref q13, w3, w4, w5, w6, w7, w8, w9, w10, w11, w12])), (q17, .inl (g.2 3, 10, .inr (.inr (.inr (.inr f18))))), (q13, .inr (10, [.ref q17, .int 0, w16])), (q28, .inl (g.2 0, 20, .inl f29)), (q20, .inr (8, [w21, w22, w23, .ref q28, w25, w26, w27]))])) 0 0 (va_A [(q28, .inl (g.2 0, 20, .inl f29)), (q20, .inr (8, [w21, w22, w23, .ref q28, w25, w26, w27])), (q17, .inl (g.2 3, 10, .inr (.inr (.inr (.inr f18))))), (q13, .inr (10, [.ref q17, .int 0, w16])), (q1, .inr (11, [.ref q13, w3, w4, w5, w6, w7, w8, w9, w10, w11, w12]))] sz) := by
  refine ofN (by decide) (Nat.le_of_ble_eq_true rfl) rfl ?_
  intro p e s m args below meth c A ls hAe hsz hx hb hml hr hlocks hin hown hE hP hD hA hS hl
  have hown : s.vm.findClass RX9 = some m.cls := hown
  refine lv_iload_n hx hb dX9_instrument_0 rfl (lv_at hl 1 rfl) ?_
  refine g0_v (rS (rest := []) hx hb hml hown hE hP hD (c1854_X9_requireInstrument l g 3 (by decide) (by decide) s.heap.size) (kS_X9_requireInstrument hE (e991 hE) rfl rfl ⟨(Nat.le_of_ble_eq_true rfl), (Nat.le_of_ble_eq_true rfl)⟩) [] rfl (by decide) rfl hl.1 rfl (lv_room (Nat.le_of_ble_eq_true rfl)) dX9_instrument_1 ⟨(Nat.le_of_ble_eq_true rfl), (Nat.le_of_ble_eq_true rfl)⟩) hP hD hS hA (fun u9 H locs hP hS => ?_)
  refine lv_iload_n hx hb dX9_instrument_4 rfl (lv_at hl 2 rfl) ?_
  refine lv_iconst (v := 0) hx hb dX9_instrument_5 (by decide) ?_
  refine lv_iconst (v := 5) hx hb dX9_instrument_6 (by decide) ?_
  refine g0_v (rS (rest := []) hx hb hml hown hE hP hD (c968_X9_requireRange l g 3 (by decide) (by decide) H.size) (kS_X9_requireRange hE (e636 hE) rfl rfl ⟨(Nat.le_of_ble_eq_true rfl), (Nat.le_of_ble_eq_true rfl)⟩) [] rfl (by decide) rfl hl.1 rfl (lv_room (Nat.le_of_ble_eq_true rfl)) dX9_instrument_7 ⟨(Nat.le_of_ble_eq_true rfl), (Nat.le_of_ble_eq_true rfl)⟩) hP hD hS hA (fun u9 H locs hP hS => ?_)
  refine lv_aload_n hx hb dX9_instrument_10 rfl (lv_at hl 0 rfl) ?_
  refine gf_RX9_12 hx hb hown hE hP 4 rfl rfl dX9_instrument_11 ?_
  refine g_r (wr := [(q28, .inl (g.2 0, 20, .inl f29)), (q20, .inr (8, [w21, w22, w23, .ref q28, w25, w26, w27])), (q1, .inr (11, [.ref q13, w3, w4, w5, w6, w7, w8, w9, w10, w11, w12]))]) (rV (rest := []) hx hb hml hown hE hP hD 3 rfl rfl (c71_X8_current l g q13 q17 q20 w16 f18 (hf19) H.size) (kV_X8_current hE (e290 hE) rfl rfl ⟨(Nat.le_of_ble_eq_true rfl), (Nat.le_of_ble_eq_true rfl)⟩) [2, 3] rfl (by decide) rfl hl.1 rfl (lv_room (Nat.le_of_ble_eq_true rfl)) dX9_instrument_14 ⟨(Nat.le_of_ble_eq_true rfl), (Nat.le_of_ble_eq_true rfl)⟩) hP hD hS hA [2, 3] [0, 1, 4] rfl rfl (by decide) (by decide) (fun u3 H locs hP hD hS => ?_)
  have hP : va_P g.1 vwCl [(q28, .inl (g.2 0, 20, .inl f29)), (q20, .inr (8, [w21, w22, w23, .ref q28, w25, w26, w27])), (q1, .inr (11, [.ref q13, w3, w4, w5, w6, w7, w8, w9, w10, w11, w12])), (q17, .inl (g.2 3, 10, .inr (.inr (.inr (.inr f18))))), (q13, .inr (10, [.ref q17, .int 0, w16]))] H := hP
  have hD : va_D A [(q28, .inl (g.2 0, 20, .inl f29)), (q20, .inr (8, [w21, w22, w23, .ref q28, w25, w26, w27])), (q1, .inr (11, [.ref q13, w3, w4, w5, w6, w7, w8, w9, w10, w11, w12])), (q17, .inl (g.2 3, 10, .inr (.inr (.inr (.inr f18))))), (q13, .inr (10, [.ref q17, .int 0, w16]))] := hD
  refine lv_astore_n (lv' := [(3, .ref q20), (0, .ref q1), (1, .int 3), (2, .int 3)]) hx hb dX9_instrument_17 rfl hl (by decide) rfl (fun ls hl => ?_)
  refine lv_iload_n hx hb dX9_instrument_18 rfl (lv_at hl 3 rfl) ?_
  refine lv_iconst (v := 5) hx hb dX9_instrument_19 (by decide) ?_
  refine lv_icmp_ne (tgt := 29) hx hb dX9_instrument_20 (by decide) (fun _ => ?_) (fun h => absurd h (by decide))
  refine lv_aload_n hx hb dX9_instrument_29 rfl (lv_at hl 0 rfl) ?_
  refine lv_iload_n hx hb dX9_instrument_30 rfl (lv_at hl 2 rfl) ?_
  refine lv_iload_n hx hb dX9_instrument_31 rfl (lv_at hl 3 rfl) ?_
  refine g_i (wr := [(q1, .inr (11, [.ref q13, w3, w4, w5, w6, w7, w8, w9, w10, w11, w12])), (q17, .inl (g.2 3, 10, .inr (.inr (.inr (.inr f18))))), (q13, .inr (10, [.ref q17, .int 0, w16]))]) (rV (rest := []) hx hb hml hown hE hP hD 1 rfl rfl (c1897_X6_instrumentNumber l g q20 q28 w21 w22 w23 w25 w26 w27 f29 (hf30) H.size) (kV_X6_instrumentNumber hE (e1010 hE) rfl rfl ⟨(Nat.le_of_ble_eq_true rfl), (Nat.le_of_ble_eq_true rfl)⟩) [0, 1] rfl (by decide) rfl hl.1 rfl (lv_room (Nat.le_of_ble_eq_true rfl)) dX9_instrument_32 ⟨(Nat.le_of_ble_eq_true rfl), (Nat.le_of_ble_eq_true rfl)⟩) hP hD hS hA [0, 1] [2, 3, 4] rfl rfl (by decide) (by decide) (fun u4 H locs hP hD hS => ?_)
  have hP : va_P g.1 vwCl [(q1, .inr (11, [.ref q13, w3, w4, w5, w6, w7, w8, w9, w10, w11, w12])), (q17, .inl (g.2 3, 10, .inr (.inr (.inr (.inr f18))))), (q13, .inr (10, [.ref q17, .int 0, w16])), (q28, .inl (g.2 0, 20, .inl f29)), (q20, .inr (8, [w21, w22, w23, .ref q28, w25, w26, w27]))] H := hP
  have hD : va_D A [(q1, .inr (11, [.ref q13, w3, w4, w5, w6, w7, w8, w9, w10, w11, w12])), (q17, .inl (g.2 3, 10, .inr (.inr (.inr (.inr f18))))), (q13, .inr (10, [.ref q17, .int 0, w16])), (q28, .inl (g.2 0, 20, .inl f29)), (q20, .inr (8, [w21, w22, w23, .ref q28, w25, w26, w27]))] := hD
  exact x_zret hx hb hr rfl rfl hlocks hP hD hS hAe hsz (Nat.le_of_ble_eq_true rfl) (Nat.le_of_ble_eq_true rfl) (fun _ => 0) [0, 1, 2, 3, 4] (by decide) rfl dX9_instrument_35

set_option maxHeartbeats 4000000 in
set_option maxRecDepth 100000 in
theorem c2225_L_instrument (l : Launch) (g : gG) (hlx : l.stackTraces = false) (q1 q2 q14 q18 q21 q29 : Nat) (w4 w5 w6 w7 w8 w9 w10 w11 w12 w13 w17 w22 w23 w24 w26 w27 w28 : Value) (f19 : Nat → Option Nat) (f30 : Nat → Int32) (f32 : Nat → Int64) (hf20 : f19 0 = some q21) (hf31 : f30 18 = 0) (sz : Nat) : Met l yL_instrument [Cond.codeWith yL_instrument cL_instrument 5 (some .int) [(0, 10, 13, 13), (0, 10, 17, 15)]] ({ frames := 3, cells := 0, slots := 0, locals := 65 } : Room) (va_Pc [.ref q1, .int 3, .int 3, .ref q2] (PZ g sz [(q2, .inl (g.2 1, 1, .inr (.inl f32))), (q29, .inl (g.2 0, 20, .inl f30)), (q21, .inr (8, [w22, w23, w24, .ref q29, w26, w27, w28])), (q18, .inl (g.2 3, 10, .inr (.inr (.inr (.inr f19))))), (q14, .inr (10, [.ref q18, .int 0, w17])), (q1, .inr (11, [.ref q14, w4, w5, w6, w7, w8, w9, w10, w11, w12, w13]))])) (QI g [(q2, .inl (g.2 1, 1, .inr (.inl f32))), (q29, .inl (g.2 0, 20, .inl f30)), (q21, .inr (8, [w22, w23, w24, .ref q29, w26, w27, w28])), (q18, .inl (g.2 3, 10, .inr (.inr (.inr (.inr f19))))), (q14, .inr (10, [.ref q18, .int 0, w17])), (q1, .inr (11, [.ref q14, w4, w5, w6, w7, w8, w9, w10, w11, w12, w13]))] sz 0 (fun _ => [(q2, .inl (g.2 1, 1, .inr (.inl (vp_updL f32 0 0))))])) 0 0 (va_A [(q2, .inl (g.2 1, 1, .inr (.inl f32))), (q29, .inl (g.2 0, 20, .inl f30)), (q21, .inr (8, [w22, w23, w24, .ref q29, w26, w27, w28])), (q18, .inl (g.2 3, 10, .inr (.inr (.inr (.inr f19))))), (q14, .inr (10, [.ref q18, .int 0, w17])), (q1, .inr (11, [.ref q14, w4, w5, w6, w7, w8, w9, w10, w11, w12, w13]))] sz) := by
  refine ofH (by decide) (Nat.le_of_ble_eq_true rfl) rfl ?_
  intro p e s m args below meth c A ls hAe hsz hx hb hml hr hlocks hin hown hE hP hD hA hS hl htb hz
  have hown : s.vm.findClass RL = some m.cls := hown
  refine lv_aload_n hx hb dL_instrument_0 rfl (lv_at hl 3 rfl) ?_
  refine lv_iconst (v := 0) hx hb dL_instrument_1 (by decide) ?_
  refine lv_aload_n hx hb dL_instrument_2 rfl (lv_at hl 0 rfl) ?_
  refine lv_iload_n hx hb dL_instrument_3 rfl (lv_at hl 1 rfl) ?_
  refine lv_iload_n hx hb dL_instrument_4 rfl (lv_at hl 2 rfl) ?_
  refine g_i (wr := [(q2, .inl (g.2 1, 1, .inr (.inl f32)))]) (rV (rest := [.int 0, .ref q2]) hx hb hml hown hE hP hD 5 rfl rfl (c2224_X9_instrument l g q1 q14 q18 q21 q29 w4 w5 w6 w7 w8 w9 w10 w11 w12 w13 w17 w22 w23 w24 w26 w27 w28 f19 f30 (hf20) (hf31) s.heap.size) (kV_X9_instrument hE (e1015 hE) rfl rfl ⟨(Nat.le_of_ble_eq_true rfl), (Nat.le_of_ble_eq_true rfl)⟩) [1, 2, 3, 4, 5] rfl (by decide) rfl hl.1 rfl (lv_room (Nat.le_of_ble_eq_true rfl)) dL_instrument_5 ⟨(Nat.le_of_ble_eq_true rfl), (Nat.le_of_ble_eq_true rfl)⟩) hP hD hS hA [1, 2, 3, 4, 5] [0] rfl rfl (by decide) (by decide) (fun u1 H locs hP hD hS => ?_)
  have hP : va_P g.1 vwCl [(q2, .inl (g.2 1, 1, .inr (.inl f32))), (q1, .inr (11, [.ref q14, w4, w5, w6, w7, w8, w9, w10, w11, w12, w13])), (q18, .inl (g.2 3, 10, .inr (.inr (.inr (.inr f19))))), (q14, .inr (10, [.ref q18, .int 0, w17])), (q29, .inl (g.2 0, 20, .inl f30)), (q21, .inr (8, [w22, w23, w24, .ref q29, w26, w27, w28]))] H := hP
  have hD : va_D A [(q2, .inl (g.2 1, 1, .inr (.inl f32))), (q1, .inr (11, [.ref q14, w4, w5, w6, w7, w8, w9, w10, w11, w12, w13])), (q18, .inl (g.2 3, 10, .inr (.inr (.inr (.inr f19))))), (q14, .inr (10, [.ref q18, .int 0, w17])), (q29, .inl (g.2 0, 20, .inl f30)), (q21, .inr (8, [w22, w23, w24, .ref q29, w26, w27, w28]))] := hD
  refine lv_i2l (v := 0) hx hb dL_instrument_8 (by decide) ?_
  refine x_last (ws' := [(q2, .inl (g.2 1, 1, .inr (.inl (vp_updL f32 0 0)))), (q1, .inr (11, [.ref q14, w4, w5, w6, w7, w8, w9, w10, w11, w12, w13])), (q18, .inl (g.2 3, 10, .inr (.inr (.inr (.inr f19))))), (q14, .inr (10, [.ref q18, .int 0, w17])), (q29, .inl (g.2 0, 20, .inl f30)), (q21, .inr (8, [w22, w23, w24, .ref q29, w26, w27, w28]))]) hx hb hE hP hD hS 0 rfl 0 (x_in (by decide)) (by decide) dL_instrument_9 rfl (fun H locs hP hD hS => ?_)
  refine lv_goto (tgt := 21) hx hb dL_instrument_10 (by decide) ?_
  refine lv_iconst (v := 0) hx hb dL_instrument_21 (by decide) ?_
  exact x_zret hx hb hr rfl rfl hlocks hP hD hS hAe hsz (Nat.le_of_ble_eq_true rfl) (Nat.le_of_ble_eq_true rfl) (fun _ => 0) [0] (by decide) rfl dL_instrument_22

set_option maxHeartbeats 4000000 in
set_option maxRecDepth 100000 in
theorem c2226_X10_instrument (l : Launch) (g : gG) (q1 q39 : Nat) (w3 w4 w5 w6 w7 w8 w9 w10 w11 w12 w13 w14 w15 w16 w17 w18 w19 w20 w21 w22 w23 w24 w25 w26 w27 w28 w29 w30 w31 w32 w33 w34 w35 w36 w37 w38 : Value) (f40 : Nat → Int32) (hf41 : f40 392 = 0) (hf42 : f40 492 = 0) (sz : Nat) : Met l yX10_instrument [Cond.code yX10_instrument cX10_instrument 5 (some .int)] ({ frames := 2, cells := 0, slots := 0, locals := 42 } : Room) (va_Pc [.ref q1, .int 3, .int 3] (PX g sz [(q39, .inl (g.2 0, 497, .inl f40)), (q1, .inr (12, [.ref q39, w3, w4, w5, w6, w7, w8, w9, w10, w11, w12, w13, w14, w15, w16, w17, w18, w19, w20, w21, w22, w23, w24, w25, w26, w27, w28, w29, w30, w31, w32, w33, w34, w35, w36, w37, w38]))])) (QI g [(q39, .inl (g.2 0, 497, .inl f40)), (q1, .inr (12, [.ref q39, w3, w4, w5, w6, w7, w8, w9, w10, w11, w12, w13, w14, w15, w16, w17, w18, w19, w20, w21, w22, w23, w24, w25, w26, w27, w28, w29, w30, w31, w32, w33, w34, w35, w36, w37, w38]))] sz 0 (fun _ => [(q1, .inr (12, [.ref q39, w3, w4, w5, w6, w7, .int 0, w9, w10, w11, w12, w13, w14, w15, w16, w17, w18, w19, w20, w21, w22, w23, w24, w25, w26, w27, w28, w29, w30, w31, w32, w33, w34, w35, w36, w37, w38]))])) 0 0 (va_A [(q39, .inl (g.2 0, 497, .inl f40)), (q1, .inr (12, [.ref q39, w3, w4, w5, w6, w7, w8, w9, w10, w11, w12, w13, w14, w15, w16, w17, w18, w19, w20, w21, w22, w23, w24, w25, w26, w27, w28, w29, w30, w31, w32, w33, w34, w35, w36, w37, w38]))] sz) := by
  refine ofN (by decide) (Nat.le_of_ble_eq_true rfl) rfl ?_
  intro p e s m args below meth c A ls hAe hsz hx hb hml hr hlocks hin hown hE hP hD hA hS hl
  have hown : s.vm.findClass RX10 = some m.cls := hown
  refine lv_aload_n hx hb dX10_instrument_0 rfl (lv_at hl 0 rfl) ?_
  refine lv_iload_n hx hb dX10_instrument_1 rfl (lv_at hl 1 rfl) ?_
  refine g0_i (rS (rest := [.ref q1]) hx hb hml hown hE hP hD (c1857_X10_isInstrument l g 3 (by decide) (by decide) s.heap.size) (kS_X10_isInstrument hE (e1645 hE) rfl rfl ⟨(Nat.le_of_ble_eq_true rfl), (Nat.le_of_ble_eq_true rfl)⟩) [] rfl (by decide) rfl hl.1 rfl (lv_room (Nat.le_of_ble_eq_true rfl)) dX10_instrument_2 ⟨(Nat.le_of_ble_eq_true rfl), (Nat.le_of_ble_eq_true rfl)⟩) hP hD hS hA (fun u9 H locs hP hS => ?_)
  refine lv_if_ne (tgt := 12) hx hb dX10_instrument_5 (by decide) (fun _ => ?_) (fun h => absurd h (by decide))
  refine lv_iload_n hx hb dX10_instrument_12 rfl (lv_at hl 2 rfl) ?_
  refine lv_iconst (v := 0) hx hb dX10_instrument_13 (by decide) ?_
  refine lv_iconst (v := 5) hx hb dX10_instrument_14 (by decide) ?_
  refine g0_i (rS (rest := [.ref q1]) hx hb hml hown hE hP hD (c971_X10_in l g 3 (by decide) (by decide) H.size) (kS_X10_in hE (e1431 hE) rfl rfl ⟨(Nat.le_of_ble_eq_true rfl), (Nat.le_of_ble_eq_true rfl)⟩) [] rfl (by decide) rfl hl.1 rfl (lv_room (Nat.le_of_ble_eq_true rfl)) dX10_instrument_15 ⟨(Nat.le_of_ble_eq_true rfl), (Nat.le_of_ble_eq_true rfl)⟩) hP hD hS hA (fun u9 H locs hP hS => ?_)
  refine lv_if_ne (tgt := 25) hx hb dX10_instrument_18 (by decide) (fun _ => ?_) (fun h => absurd h (by decide))
  refine lv_iconst (v := 0) hx hb dX10_instrument_25 (by decide) ?_
  refine pf_RX10_86 (ws' := [(q39, .inl (g.2 0, 497, .inl f40)), (q1, .inr (12, [.ref q39, w3, w4, w5, w6, w7, .int 0, w9, w10, w11, w12, w13, w14, w15, w16, w17, w18, w19, w20, w21, w22, w23, w24, w25, w26, w27, w28, w29, w30, w31, w32, w33, w34, w35, w36, w37, w38]))]) hx hb hown hE hP hD hS 1 rfl rfl rfl (Nat.le_of_ble_eq_true rfl) dX10_instrument_26 rfl (fun H locs hP hD hS => ?_)
  refine lv_aload_n hx hb dX10_instrument_29 rfl (lv_at hl 0 rfl) ?_
  refine gf_RX10_86 hx hb hown hE hP 1 rfl rfl dX10_instrument_30 ?_
  refine lv_if_le (tgt := 38) hx hb dX10_instrument_33 (by decide) (fun _ => ?_) (fun h => absurd (by decide) h)
  refine lv_iconst (v := 0) hx hb dX10_instrument_38 (by decide) ?_
  refine lv_istore_n (lv' := [(3, .int 0), (0, .ref q1), (1, .int 3), (2, .int 3)]) hx hb dX10_instrument_39 rfl hl (by decide) rfl (fun ls hl => ?_)
  refine lv_iconst (v := 0) hx hb dX10_instrument_40 (by decide) ?_
  refine lv_istore (lv' := [(4, .int 0), (3, .int 0), (0, .ref q1), (1, .int 3), (2, .int 3)]) hx hb dX10_instrument_41 hl (by decide) rfl (fun ls hl => ?_)
  refine lv_iload hx hb dX10_instrument_43 (lv_at hl 0 rfl) ?_
  refine lv_aload_n hx hb dX10_instrument_45 rfl (lv_at hl 2 rfl) ?_
  refine gf_RX10_9 hx hb hown hE hP 1 rfl rfl dX10_instrument_46 ?_
  refine lv_sipush (v := 392) hx hb dX10_instrument_49 (by decide) ?_
  refine x_iald (v := 0) hx hb hE hP 0 rfl 392 (x_in (by decide)) (by decide) hf41 dX10_instrument_52 ?_
  refine lv_icmp_ge (tgt := 81) hx hb dX10_instrument_53 (by decide) (fun _ => ?_) (fun h => absurd (by decide) h)
  refine lv_iload_n hx hb dX10_instrument_81 rfl (lv_at hl 4 rfl) ?_
  refine lv_iconst (v := 5) hx hb dX10_instrument_82 (by decide) ?_
  refine lv_icmp_ne (tgt := 90) hx hb dX10_instrument_83 (by decide) (fun _ => ?_) (fun h => absurd h (by decide))
  refine lv_aload_n hx hb dX10_instrument_90 rfl (lv_at hl 2 rfl) ?_
  refine gf_RX10_9 hx hb hown hE hP 1 rfl rfl dX10_instrument_91 ?_
  refine lv_sipush (v := 474) hx hb dX10_instrument_94 (by decide) ?_
  refine lv_iconst (v := 5) hx hb dX10_instrument_97 (by decide) ?_
  refine lv_iload_n hx hb dX10_instrument_98 rfl (lv_at hl 3 rfl) ?_
  refine x_imul (v := 15) hx hb dX10_instrument_99 (by decide) ?_
  refine x_iadd (v := 489) hx hb dX10_instrument_100 (by decide) ?_
  refine lv_iload_n hx hb dX10_instrument_101 rfl (lv_at hl 4 rfl) ?_
  refine x_iadd (v := 492) hx hb dX10_instrument_102 (by decide) ?_
  refine x_iald (v := 0) hx hb hE hP 0 rfl 492 (x_in (by decide)) (by decide) hf42 dX10_instrument_103 ?_
  exact x_zret hx hb hr rfl rfl hlocks hP hD hS hAe hsz (Nat.le_of_ble_eq_true rfl) (Nat.le_of_ble_eq_true rfl) (fun _ => 0) [1] (by decide) rfl dX10_instrument_104

set_option maxHeartbeats 4000000 in
set_option maxRecDepth 100000 in
theorem c2227_X9_instrument (l : Launch) (g : gG) (q1 q13 q17 q20 q28 : Nat) (w3 w4 w5 w6 w7 w8 w9 w10 w11 w12 w16 w21 w22 w23 w25 w26 w27 : Value) (f18 : Nat → Option Nat) (f29 : Nat → Int32) (hf19 : f18 0 = some q20) (hf30 : f29 19 = 5) (sz : Nat) : Met l yX9_instrument [Cond.code yX9_instrument cX9_instrument 4 (some .int)] ({ frames := 2, cells := 0, slots := 0, locals := 42 } : Room) (va_Pc [.ref q1, .int 3, .int 4] (PX g sz [(q28, .inl (g.2 0, 20, .inl f29)), (q20, .inr (8, [w21, w22, w23, .ref q28, w25, w26, w27])), (q17, .inl (g.2 3, 10, .inr (.inr (.inr (.inr f18))))), (q13, .inr (10, [.ref q17, .int 0, w16])), (q1, .inr (11, [.ref q13, w3, w4, w5, w6, w7, w8, w9, w10, w11, w12]))])) (QI g [(q28, .inl (g.2 0, 20, .inl f29)), (q20, .inr (8, [w21, w22, w23, .ref q28, w25, w26, w27])), (q17, .inl (g.2 3, 10, .inr (.inr (.inr (.inr f18))))), (q13, .inr (10, [.ref q17, .int 0, w16])), (q1, .inr (11, [.ref q13, w3, w4, w5, w6, w7, w8, w9, w10, w11, w12]))] sz 5 (fun _ => [(q1, .inr (11, [.ref q13, w3, w4, w5, w6, w7, w8, w9, w10, w11, w12])), (q17, .inl (g.2 3, 10, .inr (.inr (.inr (.inr f18))))), (q13, .inr (10, [.ref q17, .int 0, w16])), (q28, .inl (g.2 0, 20, .inl f29)), (q20, .inr (8, [w21, w22, w23, .ref q28, w25, w26, w27]))])) 0 0 (va_A [(q28, .inl (g.2 0, 20, .inl f29)), (q20, .inr (8, [w21, w22, w23, .ref q28, w25, w26, w27])), (q17, .inl (g.2 3, 10, .inr (.inr (.inr (.inr f18))))), (q13, .inr (10, [.ref q17, .int 0, w16])), (q1, .inr (11, [.ref q13, w3, w4, w5, w6, w7, w8, w9, w10, w11, w12]))] sz) := by
  refine ofN (by decide) (Nat.le_of_ble_eq_true rfl) rfl ?_
  intro p e s m args below meth c A ls hAe hsz hx hb hml hr hlocks hin hown hE hP hD hA hS hl
  have hown : s.vm.findClass RX9 = some m.cls := hown
  refine lv_iload_n hx hb dX9_instrument_0 rfl (lv_at hl 1 rfl) ?_
  refine g0_v (rS (rest := []) hx hb hml hown hE hP hD (c1854_X9_requireInstrument l g 3 (by decide) (by decide) s.heap.size) (kS_X9_requireInstrument hE (e991 hE) rfl rfl ⟨(Nat.le_of_ble_eq_true rfl), (Nat.le_of_ble_eq_true rfl)⟩) [] rfl (by decide) rfl hl.1 rfl (lv_room (Nat.le_of_ble_eq_true rfl)) dX9_instrument_1 ⟨(Nat.le_of_ble_eq_true rfl), (Nat.le_of_ble_eq_true rfl)⟩) hP hD hS hA (fun u9 H locs hP hS => ?_)
  refine lv_iload_n hx hb dX9_instrument_4 rfl (lv_at hl 2 rfl) ?_
  refine lv_iconst (v := 0) hx hb dX9_instrument_5 (by decide) ?_
  refine lv_iconst (v := 5) hx hb dX9_instrument_6 (by decide) ?_
  refine g0_v (rS (rest := []) hx hb hml hown hE hP hD (c968_X9_requireRange l g 4 (by decide) (by decide) H.size) (kS_X9_requireRange hE (e636 hE) rfl rfl ⟨(Nat.le_of_ble_eq_true rfl), (Nat.le_of_ble_eq_true rfl)⟩) [] rfl (by decide) rfl hl.1 rfl (lv_room (Nat.le_of_ble_eq_true rfl)) dX9_instrument_7 ⟨(Nat.le_of_ble_eq_true rfl), (Nat.le_of_ble_eq_true rfl)⟩) hP hD hS hA (fun u9 H locs hP hS => ?_)
  refine lv_aload_n hx hb dX9_instrument_10 rfl (lv_at hl 0 rfl) ?_
  refine gf_RX9_12 hx hb hown hE hP 4 rfl rfl dX9_instrument_11 ?_
  refine g_r (wr := [(q28, .inl (g.2 0, 20, .inl f29)), (q20, .inr (8, [w21, w22, w23, .ref q28, w25, w26, w27])), (q1, .inr (11, [.ref q13, w3, w4, w5, w6, w7, w8, w9, w10, w11, w12]))]) (rV (rest := []) hx hb hml hown hE hP hD 3 rfl rfl (c71_X8_current l g q13 q17 q20 w16 f18 (hf19) H.size) (kV_X8_current hE (e290 hE) rfl rfl ⟨(Nat.le_of_ble_eq_true rfl), (Nat.le_of_ble_eq_true rfl)⟩) [2, 3] rfl (by decide) rfl hl.1 rfl (lv_room (Nat.le_of_ble_eq_true rfl)) dX9_instrument_14 ⟨(Nat.le_of_ble_eq_true rfl), (Nat.le_of_ble_eq_true rfl)⟩) hP hD hS hA [2, 3] [0, 1, 4] rfl rfl (by decide) (by decide) (fun u3 H locs hP hD hS => ?_)
  have hP : va_P g.1 vwCl [(q28, .inl (g.2 0, 20, .inl f29)), (q20, .inr (8, [w21, w22, w23, .ref q28, w25, w26, w27])), (q1, .inr (11, [.ref q13, w3, w4, w5, w6, w7, w8, w9, w10, w11, w12])), (q17, .inl (g.2 3, 10, .inr (.inr (.inr (.inr f18))))), (q13, .inr (10, [.ref q17, .int 0, w16]))] H := hP
  have hD : va_D A [(q28, .inl (g.2 0, 20, .inl f29)), (q20, .inr (8, [w21, w22, w23, .ref q28, w25, w26, w27])), (q1, .inr (11, [.ref q13, w3, w4, w5, w6, w7, w8, w9, w10, w11, w12])), (q17, .inl (g.2 3, 10, .inr (.inr (.inr (.inr f18))))), (q13, .inr (10, [.ref q17, .int 0, w16]))] := hD
  refine lv_astore_n (lv' := [(3, .ref q20), (0, .ref q1), (1, .int 3), (2, .int 4)]) hx hb dX9_instrument_17 rfl hl (by decide) rfl (fun ls hl => ?_)
  refine lv_iload_n hx hb dX9_instrument_18 rfl (lv_at hl 3 rfl) ?_
  refine lv_iconst (v := 5) hx hb dX9_instrument_19 (by decide) ?_
  refine lv_icmp_ne (tgt := 29) hx hb dX9_instrument_20 (by decide) (fun _ => ?_) (fun h => absurd h (by decide))
  refine lv_aload_n hx hb dX9_instrument_29 rfl (lv_at hl 0 rfl) ?_
  refine lv_iload_n hx hb dX9_instrument_30 rfl (lv_at hl 2 rfl) ?_
  refine lv_iload_n hx hb dX9_instrument_31 rfl (lv_at hl 3 rfl) ?_
  refine g_i (wr := [(q1, .inr (11, [.ref q13, w3, w4, w5, w6, w7, w8, w9, w10, w11, w12])), (q17, .inl (g.2 3, 10, .inr (.inr (.inr (.inr f18))))), (q13, .inr (10, [.ref q17, .int 0, w16]))]) (rV (rest := []) hx hb hml hown hE hP hD 1 rfl rfl (c2136_X6_instrumentNumber l g q20 q28 w21 w22 w23 w25 w26 w27 f29 (hf30) H.size) (kV_X6_instrumentNumber hE (e1010 hE) rfl rfl ⟨(Nat.le_of_ble_eq_true rfl), (Nat.le_of_ble_eq_true rfl)⟩) [0, 1] rfl (by decide) rfl hl.1 rfl (lv_room (Nat.le_of_ble_eq_true rfl)) dX9_instrument_32 ⟨(Nat.le_of_ble_eq_true rfl), (Nat.le_of_ble_eq_true rfl)⟩) hP hD hS hA [0, 1] [2, 3, 4] rfl rfl (by decide) (by decide) (fun u4 H locs hP hD hS => ?_)
  have hP : va_P g.1 vwCl [(q1, .inr (11, [.ref q13, w3, w4, w5, w6, w7, w8, w9, w10, w11, w12])), (q17, .inl (g.2 3, 10, .inr (.inr (.inr (.inr f18))))), (q13, .inr (10, [.ref q17, .int 0, w16])), (q28, .inl (g.2 0, 20, .inl f29)), (q20, .inr (8, [w21, w22, w23, .ref q28, w25, w26, w27]))] H := hP
  have hD : va_D A [(q1, .inr (11, [.ref q13, w3, w4, w5, w6, w7, w8, w9, w10, w11, w12])), (q17, .inl (g.2 3, 10, .inr (.inr (.inr (.inr f18))))), (q13, .inr (10, [.ref q17, .int 0, w16])), (q28, .inl (g.2 0, 20, .inl f29)), (q20, .inr (8, [w21, w22, w23, .ref q28, w25, w26, w27]))] := hD
  exact x_zret hx hb hr rfl rfl hlocks hP hD hS hAe hsz (Nat.le_of_ble_eq_true rfl) (Nat.le_of_ble_eq_true rfl) (fun _ => 0) [0, 1, 2, 3, 4] (by decide) rfl dX9_instrument_35

set_option maxHeartbeats 4000000 in
set_option maxRecDepth 100000 in
theorem c2228_L_instrument (l : Launch) (g : gG) (hlx : l.stackTraces = false) (q1 q2 q14 q18 q21 q29 : Nat) (w4 w5 w6 w7 w8 w9 w10 w11 w12 w13 w17 w22 w23 w24 w26 w27 w28 : Value) (f19 : Nat → Option Nat) (f30 : Nat → Int32) (f32 : Nat → Int64) (hf20 : f19 0 = some q21) (hf31 : f30 19 = 5) (sz : Nat) : Met l yL_instrument [Cond.codeWith yL_instrument cL_instrument 5 (some .int) [(0, 10, 13, 13), (0, 10, 17, 15)]] ({ frames := 3, cells := 0, slots := 0, locals := 65 } : Room) (va_Pc [.ref q1, .int 3, .int 4, .ref q2] (PZ g sz [(q2, .inl (g.2 1, 1, .inr (.inl f32))), (q29, .inl (g.2 0, 20, .inl f30)), (q21, .inr (8, [w22, w23, w24, .ref q29, w26, w27, w28])), (q18, .inl (g.2 3, 10, .inr (.inr (.inr (.inr f19))))), (q14, .inr (10, [.ref q18, .int 0, w17])), (q1, .inr (11, [.ref q14, w4, w5, w6, w7, w8, w9, w10, w11, w12, w13]))])) (QI g [(q2, .inl (g.2 1, 1, .inr (.inl f32))), (q29, .inl (g.2 0, 20, .inl f30)), (q21, .inr (8, [w22, w23, w24, .ref q29, w26, w27, w28])), (q18, .inl (g.2 3, 10, .inr (.inr (.inr (.inr f19))))), (q14, .inr (10, [.ref q18, .int 0, w17])), (q1, .inr (11, [.ref q14, w4, w5, w6, w7, w8, w9, w10, w11, w12, w13]))] sz 0 (fun _ => [(q2, .inl (g.2 1, 1, .inr (.inl (vp_updL f32 0 5))))])) 0 0 (va_A [(q2, .inl (g.2 1, 1, .inr (.inl f32))), (q29, .inl (g.2 0, 20, .inl f30)), (q21, .inr (8, [w22, w23, w24, .ref q29, w26, w27, w28])), (q18, .inl (g.2 3, 10, .inr (.inr (.inr (.inr f19))))), (q14, .inr (10, [.ref q18, .int 0, w17])), (q1, .inr (11, [.ref q14, w4, w5, w6, w7, w8, w9, w10, w11, w12, w13]))] sz) := by
  refine ofH (by decide) (Nat.le_of_ble_eq_true rfl) rfl ?_
  intro p e s m args below meth c A ls hAe hsz hx hb hml hr hlocks hin hown hE hP hD hA hS hl htb hz
  have hown : s.vm.findClass RL = some m.cls := hown
  refine lv_aload_n hx hb dL_instrument_0 rfl (lv_at hl 3 rfl) ?_
  refine lv_iconst (v := 0) hx hb dL_instrument_1 (by decide) ?_
  refine lv_aload_n hx hb dL_instrument_2 rfl (lv_at hl 0 rfl) ?_
  refine lv_iload_n hx hb dL_instrument_3 rfl (lv_at hl 1 rfl) ?_
  refine lv_iload_n hx hb dL_instrument_4 rfl (lv_at hl 2 rfl) ?_
  refine g_i (wr := [(q2, .inl (g.2 1, 1, .inr (.inl f32)))]) (rV (rest := [.int 0, .ref q2]) hx hb hml hown hE hP hD 5 rfl rfl (c2227_X9_instrument l g q1 q14 q18 q21 q29 w4 w5 w6 w7 w8 w9 w10 w11 w12 w13 w17 w22 w23 w24 w26 w27 w28 f19 f30 (hf20) (hf31) s.heap.size) (kV_X9_instrument hE (e1015 hE) rfl rfl ⟨(Nat.le_of_ble_eq_true rfl), (Nat.le_of_ble_eq_true rfl)⟩) [1, 2, 3, 4, 5] rfl (by decide) rfl hl.1 rfl (lv_room (Nat.le_of_ble_eq_true rfl)) dL_instrument_5 ⟨(Nat.le_of_ble_eq_true rfl), (Nat.le_of_ble_eq_true rfl)⟩) hP hD hS hA [1, 2, 3, 4, 5] [0] rfl rfl (by decide) (by decide) (fun u1 H locs hP hD hS => ?_)
  have hP : va_P g.1 vwCl [(q2, .inl (g.2 1, 1, .inr (.inl f32))), (q1, .inr (11, [.ref q14, w4, w5, w6, w7, w8, w9, w10, w11, w12, w13])), (q18, .inl (g.2 3, 10, .inr (.inr (.inr (.inr f19))))), (q14, .inr (10, [.ref q18, .int 0, w17])), (q29, .inl (g.2 0, 20, .inl f30)), (q21, .inr (8, [w22, w23, w24, .ref q29, w26, w27, w28]))] H := hP
  have hD : va_D A [(q2, .inl (g.2 1, 1, .inr (.inl f32))), (q1, .inr (11, [.ref q14, w4, w5, w6, w7, w8, w9, w10, w11, w12, w13])), (q18, .inl (g.2 3, 10, .inr (.inr (.inr (.inr f19))))), (q14, .inr (10, [.ref q18, .int 0, w17])), (q29, .inl (g.2 0, 20, .inl f30)), (q21, .inr (8, [w22, w23, w24, .ref q29, w26, w27, w28]))] := hD
  refine lv_i2l (v := 5) hx hb dL_instrument_8 (by decide) ?_
  refine x_last (ws' := [(q2, .inl (g.2 1, 1, .inr (.inl (vp_updL f32 0 5)))), (q1, .inr (11, [.ref q14, w4, w5, w6, w7, w8, w9, w10, w11, w12, w13])), (q18, .inl (g.2 3, 10, .inr (.inr (.inr (.inr f19))))), (q14, .inr (10, [.ref q18, .int 0, w17])), (q29, .inl (g.2 0, 20, .inl f30)), (q21, .inr (8, [w22, w23, w24, .ref q29, w26, w27, w28]))]) hx hb hE hP hD hS 0 rfl 0 (x_in (by decide)) (by decide) dL_instrument_9 rfl (fun H locs hP hD hS => ?_)
  refine lv_goto (tgt := 21) hx hb dL_instrument_10 (by decide) ?_
  refine lv_iconst (v := 0) hx hb dL_instrument_21 (by decide) ?_
  exact x_zret hx hb hr rfl rfl hlocks hP hD hS hAe hsz (Nat.le_of_ble_eq_true rfl) (Nat.le_of_ble_eq_true rfl) (fun _ => 0) [0] (by decide) rfl dL_instrument_22

set_option maxHeartbeats 4000000 in
set_option maxRecDepth 100000 in
theorem c2229_X10_instrument (l : Launch) (g : gG) (q1 q39 : Nat) (w3 w4 w5 w6 w7 w8 w9 w10 w11 w12 w13 w14 w15 w16 w17 w18 w19 w20 w21 w22 w23 w24 w25 w26 w27 w28 w29 w30 w31 w32 w33 w34 w35 w36 w37 w38 : Value) (f40 : Nat → Int32) (hf41 : f40 392 = 0) (hf42 : f40 493 = 5) (sz : Nat) : Met l yX10_instrument [Cond.code yX10_instrument cX10_instrument 5 (some .int)] ({ frames := 2, cells := 0, slots := 0, locals := 42 } : Room) (va_Pc [.ref q1, .int 3, .int 4] (PX g sz [(q39, .inl (g.2 0, 497, .inl f40)), (q1, .inr (12, [.ref q39, w3, w4, w5, w6, w7, w8, w9, w10, w11, w12, w13, w14, w15, w16, w17, w18, w19, w20, w21, w22, w23, w24, w25, w26, w27, w28, w29, w30, w31, w32, w33, w34, w35, w36, w37, w38]))])) (QI g [(q39, .inl (g.2 0, 497, .inl f40)), (q1, .inr (12, [.ref q39, w3, w4, w5, w6, w7, w8, w9, w10, w11, w12, w13, w14, w15, w16, w17, w18, w19, w20, w21, w22, w23, w24, w25, w26, w27, w28, w29, w30, w31, w32, w33, w34, w35, w36, w37, w38]))] sz 5 (fun _ => [(q1, .inr (12, [.ref q39, w3, w4, w5, w6, w7, .int 0, w9, w10, w11, w12, w13, w14, w15, w16, w17, w18, w19, w20, w21, w22, w23, w24, w25, w26, w27, w28, w29, w30, w31, w32, w33, w34, w35, w36, w37, w38]))])) 0 0 (va_A [(q39, .inl (g.2 0, 497, .inl f40)), (q1, .inr (12, [.ref q39, w3, w4, w5, w6, w7, w8, w9, w10, w11, w12, w13, w14, w15, w16, w17, w18, w19, w20, w21, w22, w23, w24, w25, w26, w27, w28, w29, w30, w31, w32, w33, w34, w35, w36, w37, w38]))] sz) := by
  refine ofN (by decide) (Nat.le_of_ble_eq_true rfl) rfl ?_
  intro p e s m args below meth c A ls hAe hsz hx hb hml hr hlocks hin hown hE hP hD hA hS hl
  have hown : s.vm.findClass RX10 = some m.cls := hown
  refine lv_aload_n hx hb dX10_instrument_0 rfl (lv_at hl 0 rfl) ?_
  refine lv_iload_n hx hb dX10_instrument_1 rfl (lv_at hl 1 rfl) ?_
  refine g0_i (rS (rest := [.ref q1]) hx hb hml hown hE hP hD (c1857_X10_isInstrument l g 3 (by decide) (by decide) s.heap.size) (kS_X10_isInstrument hE (e1645 hE) rfl rfl ⟨(Nat.le_of_ble_eq_true rfl), (Nat.le_of_ble_eq_true rfl)⟩) [] rfl (by decide) rfl hl.1 rfl (lv_room (Nat.le_of_ble_eq_true rfl)) dX10_instrument_2 ⟨(Nat.le_of_ble_eq_true rfl), (Nat.le_of_ble_eq_true rfl)⟩) hP hD hS hA (fun u9 H locs hP hS => ?_)
  refine lv_if_ne (tgt := 12) hx hb dX10_instrument_5 (by decide) (fun _ => ?_) (fun h => absurd h (by decide))
  refine lv_iload_n hx hb dX10_instrument_12 rfl (lv_at hl 2 rfl) ?_
  refine lv_iconst (v := 0) hx hb dX10_instrument_13 (by decide) ?_
  refine lv_iconst (v := 5) hx hb dX10_instrument_14 (by decide) ?_
  refine g0_i (rS (rest := [.ref q1]) hx hb hml hown hE hP hD (c971_X10_in l g 4 (by decide) (by decide) H.size) (kS_X10_in hE (e1431 hE) rfl rfl ⟨(Nat.le_of_ble_eq_true rfl), (Nat.le_of_ble_eq_true rfl)⟩) [] rfl (by decide) rfl hl.1 rfl (lv_room (Nat.le_of_ble_eq_true rfl)) dX10_instrument_15 ⟨(Nat.le_of_ble_eq_true rfl), (Nat.le_of_ble_eq_true rfl)⟩) hP hD hS hA (fun u9 H locs hP hS => ?_)
  refine lv_if_ne (tgt := 25) hx hb dX10_instrument_18 (by decide) (fun _ => ?_) (fun h => absurd h (by decide))
  refine lv_iconst (v := 0) hx hb dX10_instrument_25 (by decide) ?_
  refine pf_RX10_86 (ws' := [(q39, .inl (g.2 0, 497, .inl f40)), (q1, .inr (12, [.ref q39, w3, w4, w5, w6, w7, .int 0, w9, w10, w11, w12, w13, w14, w15, w16, w17, w18, w19, w20, w21, w22, w23, w24, w25, w26, w27, w28, w29, w30, w31, w32, w33, w34, w35, w36, w37, w38]))]) hx hb hown hE hP hD hS 1 rfl rfl rfl (Nat.le_of_ble_eq_true rfl) dX10_instrument_26 rfl (fun H locs hP hD hS => ?_)
  refine lv_aload_n hx hb dX10_instrument_29 rfl (lv_at hl 0 rfl) ?_
  refine gf_RX10_86 hx hb hown hE hP 1 rfl rfl dX10_instrument_30 ?_
  refine lv_if_le (tgt := 38) hx hb dX10_instrument_33 (by decide) (fun _ => ?_) (fun h => absurd (by decide) h)
  refine lv_iconst (v := 0) hx hb dX10_instrument_38 (by decide) ?_
  refine lv_istore_n (lv' := [(3, .int 0), (0, .ref q1), (1, .int 3), (2, .int 4)]) hx hb dX10_instrument_39 rfl hl (by decide) rfl (fun ls hl => ?_)
  refine lv_iconst (v := 0) hx hb dX10_instrument_40 (by decide) ?_
  refine lv_istore (lv' := [(4, .int 0), (3, .int 0), (0, .ref q1), (1, .int 3), (2, .int 4)]) hx hb dX10_instrument_41 hl (by decide) rfl (fun ls hl => ?_)
  refine lv_iload hx hb dX10_instrument_43 (lv_at hl 0 rfl) ?_
  refine lv_aload_n hx hb dX10_instrument_45 rfl (lv_at hl 2 rfl) ?_
  refine gf_RX10_9 hx hb hown hE hP 1 rfl rfl dX10_instrument_46 ?_
  refine lv_sipush (v := 392) hx hb dX10_instrument_49 (by decide) ?_
  refine x_iald (v := 0) hx hb hE hP 0 rfl 392 (x_in (by decide)) (by decide) hf41 dX10_instrument_52 ?_
  refine lv_icmp_ge (tgt := 81) hx hb dX10_instrument_53 (by decide) (fun _ => ?_) (fun h => absurd (by decide) h)
  refine lv_iload_n hx hb dX10_instrument_81 rfl (lv_at hl 4 rfl) ?_
  refine lv_iconst (v := 5) hx hb dX10_instrument_82 (by decide) ?_
  refine lv_icmp_ne (tgt := 90) hx hb dX10_instrument_83 (by decide) (fun _ => ?_) (fun h => absurd h (by decide))
  refine lv_aload_n hx hb dX10_instrument_90 rfl (lv_at hl 2 rfl) ?_
  refine gf_RX10_9 hx hb hown hE hP 1 rfl rfl dX10_instrument_91 ?_
  refine lv_sipush (v := 474) hx hb dX10_instrument_94 (by decide) ?_
  refine lv_iconst (v := 5) hx hb dX10_instrument_97 (by decide) ?_
  refine lv_iload_n hx hb dX10_instrument_98 rfl (lv_at hl 3 rfl) ?_
  refine x_imul (v := 15) hx hb dX10_instrument_99 (by decide) ?_
  refine x_iadd (v := 489) hx hb dX10_instrument_100 (by decide) ?_
  refine lv_iload_n hx hb dX10_instrument_101 rfl (lv_at hl 4 rfl) ?_
  refine x_iadd (v := 493) hx hb dX10_instrument_102 (by decide) ?_
  refine x_iald (v := 5) hx hb hE hP 0 rfl 493 (x_in (by decide)) (by decide) hf42 dX10_instrument_103 ?_
  exact x_zret hx hb hr rfl rfl hlocks hP hD hS hAe hsz (Nat.le_of_ble_eq_true rfl) (Nat.le_of_ble_eq_true rfl) (fun _ => 0) [1] (by decide) rfl dX10_instrument_104
