set_option maxHeartbeats 4000000 in
set_option maxRecDepth 100000 in
theorem c1440_X9_played (l : Launch) (g : gG) (hlx : l.stackTraces = false) (q1 q17 q21 q24 q32 q36 : Nat) (x2 x3 : Int32) (w7 w8 w9 w10 w11 w12 w13 w14 w15 w16 w20 w26 w27 w28 w29 w30 w31 w34 : Value) (f22 : Nat → Option Nat) (f37 : Nat → Int32) (hf23 : f22 0 = some q24) (hf38 : f37 10 = 0) (h4 : (0 : Int32) ≤ x3) (h5 : x3 ≤ 3) (h33 : (0 : Int32) ≤ x2) (sz : Nat) : vx_Met l yX9_played [Cond.code yX9_played cX9_played 6 (some .int)] ({ frames := 6, cells := 1, slots := 6, locals := 100 } : Room) (va_Pc [.ref q1, .int 2, .int x2, .int x3] (PZ g sz [(q36, .inl (g.2 0, 40, .inl f37)), (q32, .inr (5, [w34, .ref q36])), (q24, .inr (8, [.ref q32, w26, w27, w28, w29, w30, w31])), (q21, .inl (g.2 3, 10, .inr (.inr (.inr (.inr f22))))), (q17, .inr (10, [.ref q21, .int 0, w20])), (q1, .inr (11, [.ref q17, w7, w8, w9, w10, w11, w12, w13, w14, w15, w16]))])) NI (XW g [(q36, .inl (g.2 0, 40, .inl f37)), (q32, .inr (5, [w34, .ref q36])), (q24, .inr (8, [.ref q32, w26, w27, w28, w29, w30, w31])), (q21, .inl (g.2 3, 10, .inr (.inr (.inr (.inr f22))))), (q17, .inr (10, [.ref q21, .int 0, w20])), (q1, .inr (11, [.ref q17, w7, w8, w9, w10, w11, w12, w13, w14, w15, w16]))] sz "java/util/NoSuchElementException" [(q24, .inr (8, [.ref q32, w26, w27, w28, w29, w30, w31])), (q1, .inr (11, [.ref q17, w7, w8, w9, w10, w11, w12, w13, w14, w15, w16])), (q21, .inl (g.2 3, 10, .inr (.inr (.inr (.inr f22))))), (q17, .inr (10, [.ref q21, .int 0, w20])), (q36, .inl (g.2 0, 40, .inl f37)), (q32, .inr (5, [w34, .ref q36]))]) 1 6 (va_A [(q36, .inl (g.2 0, 40, .inl f37)), (q32, .inr (5, [w34, .ref q36])), (q24, .inr (8, [.ref q32, w26, w27, w28, w29, w30, w31])), (q21, .inl (g.2 3, 10, .inr (.inr (.inr (.inr f22))))), (q17, .inr (10, [.ref q21, .int 0, w20])), (q1, .inr (11, [.ref q17, w7, w8, w9, w10, w11, w12, w13, w14, w15, w16]))] sz) := by
  refine ofX (by decide) (Nat.le_of_ble_eq_true rfl) rfl ?_
  intro p e s m args below meth c A ls hAe hsz hx hb hml hr hlocks hin hown hE hP hD hA hS hl hex hz
  have hown : s.vm.findClass RX9 = some m.cls := hown
  refine lv_iload_n hx hb dX9_played_0 rfl (lv_at hl 1 rfl) ?_
  refine g0_v (rS (rest := []) hx hb hml hown hE hP hD (c89_X9_requirePattern l g 2 (by decide) (by decide) s.heap.size) (kS_X9_requirePattern hE (e617 hE) rfl rfl ⟨(Nat.le_of_ble_eq_true rfl), (Nat.le_of_ble_eq_true rfl)⟩) [] rfl (by decide) rfl hl.1 rfl (lv_room (Nat.le_of_ble_eq_true rfl)) dX9_played_1 ⟨(Nat.le_of_ble_eq_true rfl), (Nat.le_of_ble_eq_true rfl)⟩) hP hD hS hA (fun u9 H locs hP hS => ?_)
  refine lv_iload_n hx hb dX9_played_4 rfl (lv_at hl 3 rfl) ?_
  refine lv_iconst (v := 0) hx hb dX9_played_5 (by decide) ?_
  refine lv_iconst (v := 3) hx hb dX9_played_6 (by decide) ?_
  refine g0_v (rS (rest := []) hx hb hml hown hE hP hD (c815_X9_requireRange l g x3 h4 h5 H.size) (kS_X9_requireRange hE (e636 hE) rfl rfl ⟨(Nat.le_of_ble_eq_true rfl), (Nat.le_of_ble_eq_true rfl)⟩) [] rfl (by decide) rfl hl.1 rfl (lv_room (Nat.le_of_ble_eq_true rfl)) dX9_played_7 ⟨(Nat.le_of_ble_eq_true rfl), (Nat.le_of_ble_eq_true rfl)⟩) hP hD hS hA (fun u9 H locs hP hS => ?_)
  refine lv_aload_n hx hb dX9_played_10 rfl (lv_at hl 0 rfl) ?_
  refine gf_RX9_12 hx hb hown hE hP 5 rfl rfl dX9_played_11 ?_
  refine g_r (wr := [(q36, .inl (g.2 0, 40, .inl f37)), (q32, .inr (5, [w34, .ref q36])), (q24, .inr (8, [.ref q32, w26, w27, w28, w29, w30, w31])), (q1, .inr (11, [.ref q17, w7, w8, w9, w10, w11, w12, w13, w14, w15, w16]))]) (rV (rest := []) hx hb hml hown hE hP hD 4 rfl rfl (c71_X8_current l g q17 q21 q24 w20 f22 (hf23) H.size) (kV_X8_current hE (e290 hE) rfl rfl ⟨(Nat.le_of_ble_eq_true rfl), (Nat.le_of_ble_eq_true rfl)⟩) [3, 4] rfl (by decide) rfl hl.1 rfl (lv_room (Nat.le_of_ble_eq_true rfl)) dX9_played_14 ⟨(Nat.le_of_ble_eq_true rfl), (Nat.le_of_ble_eq_true rfl)⟩) hP hD hS hA [3, 4] [0, 1, 2, 5] rfl rfl (by decide) (by decide) (fun u3 H locs hP hD hS => ?_)
  have hP : va_P g.1 vwCl [(q36, .inl (g.2 0, 40, .inl f37)), (q32, .inr (5, [w34, .ref q36])), (q24, .inr (8, [.ref q32, w26, w27, w28, w29, w30, w31])), (q1, .inr (11, [.ref q17, w7, w8, w9, w10, w11, w12, w13, w14, w15, w16])), (q21, .inl (g.2 3, 10, .inr (.inr (.inr (.inr f22))))), (q17, .inr (10, [.ref q21, .int 0, w20]))] H := hP
  have hD : va_D A [(q36, .inl (g.2 0, 40, .inl f37)), (q32, .inr (5, [w34, .ref q36])), (q24, .inr (8, [.ref q32, w26, w27, w28, w29, w30, w31])), (q1, .inr (11, [.ref q17, w7, w8, w9, w10, w11, w12, w13, w14, w15, w16])), (q21, .inl (g.2 3, 10, .inr (.inr (.inr (.inr f22))))), (q17, .inr (10, [.ref q21, .int 0, w20]))] := hD
  refine gf_RX9_108 hx hb hown hE hP 2 rfl rfl dX9_played_17 ?_
  refine lv_astore (lv' := [(4, .ref q32), (0, .ref q1), (1, .int 2), (2, .int x2), (3, .int x3)]) hx hb dX9_played_20 hl (by decide) rfl (fun ls hl => ?_)
  refine lv_aload hx hb dX9_played_22 (lv_at hl 0 rfl) ?_
  refine lv_iload_n hx hb dX9_played_24 rfl (lv_at hl 2 rfl) ?_
  refine lv_iload_n hx hb dX9_played_25 rfl (lv_at hl 3 rfl) ?_
  refine g_i (wr := [(q24, .inr (8, [.ref q32, w26, w27, w28, w29, w30, w31])), (q1, .inr (11, [.ref q17, w7, w8, w9, w10, w11, w12, w13, w14, w15, w16])), (q21, .inl (g.2 3, 10, .inr (.inr (.inr (.inr f22))))), (q17, .inr (10, [.ref q21, .int 0, w20]))]) (rV (rest := []) hx hb hml hown hE hP hD 1 rfl rfl (c1439_X3_findNote l g q32 q36 x2 w34 f37 (hf38) h33 H.size) (kV_X3_findNote hE (e782 hE) rfl rfl ⟨(Nat.le_of_ble_eq_true rfl), (Nat.le_of_ble_eq_true rfl)⟩) [0, 1] rfl (by decide) rfl hl.1 rfl (lv_room (Nat.le_of_ble_eq_true rfl)) dX9_played_26 ⟨(Nat.le_of_ble_eq_true rfl), (Nat.le_of_ble_eq_true rfl)⟩) hP hD hS hA [0, 1] [2, 3, 4, 5] rfl rfl (by decide) (by decide) (fun u4 H locs hP hD hS => ?_)
  have hP : va_P g.1 vwCl [(q24, .inr (8, [.ref q32, w26, w27, w28, w29, w30, w31])), (q1, .inr (11, [.ref q17, w7, w8, w9, w10, w11, w12, w13, w14, w15, w16])), (q21, .inl (g.2 3, 10, .inr (.inr (.inr (.inr f22))))), (q17, .inr (10, [.ref q21, .int 0, w20])), (q36, .inl (g.2 0, 40, .inl f37)), (q32, .inr (5, [w34, .ref q36]))] H := hP
  have hD : va_D A [(q24, .inr (8, [.ref q32, w26, w27, w28, w29, w30, w31])), (q1, .inr (11, [.ref q17, w7, w8, w9, w10, w11, w12, w13, w14, w15, w16])), (q21, .inl (g.2 3, 10, .inr (.inr (.inr (.inr f22))))), (q17, .inr (10, [.ref q21, .int 0, w20])), (q36, .inl (g.2 0, 40, .inl f37)), (q32, .inr (5, [w34, .ref q36]))] := hD
  refine lv_istore (lv' := [(5, .int (-1)), (4, .ref q32), (0, .ref q1), (1, .int 2), (2, .int x2), (3, .int x3)]) hx hb dX9_played_29 hl (by decide) rfl (fun ls hl => ?_)
  refine lv_iload hx hb dX9_played_31 (lv_at hl 0 rfl) ?_
  refine lv_iconst (v := (-1)) hx hb dX9_played_33 (by decide) ?_
  refine lv_icmp_ne (tgt := 47) hx hb dX9_played_34 (by decide) (fun h => absurd h (by decide)) (fun _ => ?_)
  exact x_throwN (text := "no such note") hx hb hlx hown hE (e783 hE) (e23 hE) (by decide +kernel) hz (by rw [hml]; exact hl.1) dX9_played_37 dX9_played_40 dX9_played_41 dX9_played_43 dX9_played_46 hex (Nat.le_of_ble_eq_true rfl) (Nat.le_of_ble_eq_true rfl) (Nat.le_of_ble_eq_true rfl) (Nat.le_of_ble_eq_true rfl) hlocks hP hD hS hAe hsz (Nat.le_of_ble_eq_true rfl) (Nat.le_of_ble_eq_true rfl) [0, 1, 2, 3, 4, 5] (by decide) rfl

set_option maxHeartbeats 4000000 in
set_option maxRecDepth 100000 in
theorem c1441_L_played (l : Launch) (g : gG) (hlx : l.stackTraces = false) (q1 q4 q18 q22 q25 q33 q37 : Nat) (x2 x3 : Int32) (w8 w9 w10 w11 w12 w13 w14 w15 w16 w17 w21 w27 w28 w29 w30 w31 w32 w35 : Value) (f23 : Nat → Option Nat) (f38 : Nat → Int32) (hf24 : f23 0 = some q25) (hf39 : f38 10 = 0) (h5 : (0 : Int32) ≤ x3) (h6 : x3 ≤ 3) (h34 : (0 : Int32) ≤ x2) (sz : Nat) : Met l yL_played [Cond.codeWith yL_played cL_played 6 (some .int) [(0, 12, 15, 13), (0, 12, 19, 15), (0, 12, 23, 39)]] ({ frames := 7, cells := 1, slots := 6, locals := 125 } : Room) (va_Pc [.ref q1, .int 2, .int x2, .int x3, .ref q4] (PZ g sz [(q37, .inl (g.2 0, 40, .inl f38)), (q33, .inr (5, [w35, .ref q37])), (q25, .inr (8, [.ref q33, w27, w28, w29, w30, w31, w32])), (q22, .inl (g.2 3, 10, .inr (.inr (.inr (.inr f23))))), (q18, .inr (10, [.ref q22, .int 0, w21])), (q1, .inr (11, [.ref q18, w8, w9, w10, w11, w12, w13, w14, w15, w16, w17]))])) (QI g [(q37, .inl (g.2 0, 40, .inl f38)), (q33, .inr (5, [w35, .ref q37])), (q25, .inr (8, [.ref q33, w27, w28, w29, w30, w31, w32])), (q22, .inl (g.2 3, 10, .inr (.inr (.inr (.inr f23))))), (q18, .inr (10, [.ref q22, .int 0, w21])), (q1, .inr (11, [.ref q18, w8, w9, w10, w11, w12, w13, w14, w15, w16, w17]))] sz 3 (fun _ => [])) 1 6 (va_A [(q37, .inl (g.2 0, 40, .inl f38)), (q33, .inr (5, [w35, .ref q37])), (q25, .inr (8, [.ref q33, w27, w28, w29, w30, w31, w32])), (q22, .inl (g.2 3, 10, .inr (.inr (.inr (.inr f23))))), (q18, .inr (10, [.ref q22, .int 0, w21])), (q1, .inr (11, [.ref q18, w8, w9, w10, w11, w12, w13, w14, w15, w16, w17]))] sz) := by
  refine ofH (by decide) (Nat.le_of_ble_eq_true rfl) rfl ?_
  intro p e s m args below meth c A ls hAe hsz hx hb hml hr hlocks hin hown hE hP hD hA hS hl htb hz
  have hown : s.vm.findClass RL = some m.cls := hown
  refine lv_aload hx hb dL_played_0 (lv_at hl 4 rfl) ?_
  refine lv_iconst (v := 0) hx hb dL_played_2 (by decide) ?_
  refine lv_aload_n hx hb dL_played_3 rfl (lv_at hl 0 rfl) ?_
  refine lv_iload_n hx hb dL_played_4 rfl (lv_at hl 1 rfl) ?_
  refine lv_iload_n hx hb dL_played_5 rfl (lv_at hl 2 rfl) ?_
  refine lv_iload_n hx hb dL_played_6 rfl (lv_at hl 3 rfl) ?_
  refine gx_i (wr := []) (rVx (rest := [.int 0, .ref q4]) hx hb hml hown hE hP hD hS hA hz 5 rfl rfl (c1440_X9_played l g hlx q1 q18 q22 q25 q33 q37 x2 x3 w8 w9 w10 w11 w12 w13 w14 w15 w16 w17 w21 w27 w28 w29 w30 w31 w32 w35 f23 f38 (hf24) (hf39) h5 h6 h34 s.heap.size) (kV_X9_played hE (e778 hE) rfl rfl ⟨(Nat.le_of_ble_eq_true rfl), (Nat.le_of_ble_eq_true rfl)⟩) [0, 1, 2, 3, 4, 5] rfl (by decide) rfl hl.1 rfl (lv_room (Nat.le_of_ble_eq_true rfl)) dL_played_7 ⟨(Nat.le_of_ble_eq_true rfl), (Nat.le_of_ble_eq_true rfl)⟩) hP hD hS hA [0, 1, 2, 3, 4, 5] [] rfl rfl (by decide) (by decide) (fun ce9 q9 H locs hP hD hS hq1 hq2 hq3 => ?_)
  have hP : va_P g.1 vwCl [(q25, .inr (8, [.ref q33, w27, w28, w29, w30, w31, w32])), (q1, .inr (11, [.ref q18, w8, w9, w10, w11, w12, w13, w14, w15, w16, w17])), (q22, .inl (g.2 3, 10, .inr (.inr (.inr (.inr f23))))), (q18, .inr (10, [.ref q22, .int 0, w21])), (q37, .inl (g.2 0, 40, .inl f38)), (q33, .inr (5, [w35, .ref q37]))] H := hP
  have hD : va_D A [(q25, .inr (8, [.ref q33, w27, w28, w29, w30, w31, w32])), (q1, .inr (11, [.ref q18, w8, w9, w10, w11, w12, w13, w14, w15, w16, w17])), (q22, .inl (g.2 3, 10, .inr (.inr (.inr (.inr f23))))), (q18, .inr (10, [.ref q22, .int 0, w21])), (q37, .inl (g.2 0, 40, .inl f38)), (q33, .inr (5, [w35, .ref q37]))] := hD
  refine x_catch (name := "java/util/NoSuchElementException") (hh := [(0, 12, 15, 13), (0, 12, 19, 15), (0, 12, 23, 39)]) (tgt := 23) hown htb [⟨0, 12, 15, 13⟩, ⟨0, 12, 19, 15⟩] ⟨0, 12, 23, 39⟩ [] rfl (fun z hz => by
    rcases List.mem_cons.mp hz with rfl | hz
    · exact Or.inr ⟨by decide, "java/lang/IndexOutOfBoundsException", e532 hE, hE.2.2.2.2.2 ("java/util/NoSuchElementException", "java/lang/IndexOutOfBoundsException") (by decide +kernel)⟩
    rcases List.mem_cons.mp hz with rfl | hz
    · exact Or.inr ⟨by decide, "java/lang/IllegalArgumentException", e611 hE, hE.2.2.2.2.2 ("java/util/NoSuchElementException", "java/lang/IllegalArgumentException") (by decide +kernel)⟩
    exact nomatch hz) rfl (by decide) (e777 hE) (e785 hE) hq1 hq2 hq3 rfl ?_
  refine lv_astore (lv' := [(5, .ref q9), (0, .ref q1), (1, .int 2), (2, .int x2), (3, .int x3), (4, .ref q4)]) hx hb dL_played_23 hl (by decide) rfl (fun ls hl => ?_)
  refine lv_iconst (v := 3) hx hb dL_played_25 (by decide) ?_
  exact x_zret hx hb hr rfl rfl hlocks hP hD hS hAe hsz (Nat.le_of_ble_eq_true rfl) (Nat.le_of_ble_eq_true rfl) (fun _ => 0) [] (by decide) rfl dL_played_26

set_option maxHeartbeats 4000000 in
set_option maxRecDepth 100000 in
theorem c1442_X10_played (l : Launch) (g : gG) (q1 q43 q44 q45 : Nat) (x2 x3 : Int32) (w7 w8 w9 w10 w11 w12 w15 w16 w17 w18 w19 w20 w21 w22 w23 w24 w25 w26 w27 w28 w29 w30 w31 w32 w33 w34 w35 w36 w37 w38 w39 w40 w41 w42 : Value) (f46 : Nat → Int32) (f55 : Nat → Int32) (hf47 : f46 0 = 0) (hf48 : f46 49 = 0) (hf49 : f46 98 = 0) (hf50 : f46 147 = 0) (hf51 : f46 196 = 0) (hf52 : f46 245 = 0) (hf53 : f46 294 = 0) (hf54 : f46 343 = 0) (hf56 : f55 0 = 0) (hf57 : f55 1 = 0) (hf58 : f55 2 = 0) (hf59 : f55 3 = 0) (hf60 : f55 4 = 0) (hf61 : f55 5 = 0) (hf62 : f55 6 = 0) (hf63 : f55 7 = 0) (h4 : (0 : Int32) ≤ x3) (h5 : x3 ≤ 3) (h64 : (0 : Int32) ≤ x2) (sz : Nat) : Met l yX10_played [Cond.code yX10_played cX10_played 4 (some .int)] ({ frames := 3, cells := 0, slots := 0, locals := 66 } : Room) (va_Pc [.ref q1, .int 2, .int x2, .int x3] (PX g sz [(q45, .inl (g.2 0, 8, .inl f55)), (q44, .inl (g.2 0, 8, .inl f55)), (q43, .inl (g.2 0, 497, .inl f46)), (q1, .inr (12, [.ref q43, w7, w8, w9, w10, w11, w12, .ref q44, .ref q45, w15, w16, w17, w18, w19, w20, w21, w22, w23, w24, w25, w26, w27, w28, w29, w30, w31, w32, w33, w34, w35, w36, w37, w38, w39, w40, w41, w42]))])) (QI g [(q45, .inl (g.2 0, 8, .inl f55)), (q44, .inl (g.2 0, 8, .inl f55)), (q43, .inl (g.2 0, 497, .inl f46)), (q1, .inr (12, [.ref q43, w7, w8, w9, w10, w11, w12, .ref q44, .ref q45, w15, w16, w17, w18, w19, w20, w21, w22, w23, w24, w25, w26, w27, w28, w29, w30, w31, w32, w33, w34, w35, w36, w37, w38, w39, w40, w41, w42]))] sz 0 (fun _ => [(q1, .inr (12, [.ref q43, w7, w8, w9, w10, w11, .int 3, .ref q44, .ref q45, w15, w16, w17, w18, w19, w20, w21, w22, w23, w24, w25, w26, w27, w28, w29, w30, w31, w32, w33, w34, w35, w36, w37, w38, w39, w40, w41, w42]))])) 0 0 (va_A [(q45, .inl (g.2 0, 8, .inl f55)), (q44, .inl (g.2 0, 8, .inl f55)), (q43, .inl (g.2 0, 497, .inl f46)), (q1, .inr (12, [.ref q43, w7, w8, w9, w10, w11, w12, .ref q44, .ref q45, w15, w16, w17, w18, w19, w20, w21, w22, w23, w24, w25, w26, w27, w28, w29, w30, w31, w32, w33, w34, w35, w36, w37, w38, w39, w40, w41, w42]))] sz) := by
  refine ofN (by decide) (Nat.le_of_ble_eq_true rfl) rfl ?_
  intro p e s m args below meth c A ls hAe hsz hx hb hml hr hlocks hin hown hE hP hD hA hS hl
  have hown : s.vm.findClass RX10 = some m.cls := hown
  refine lv_aload_n hx hb dX10_played_0 rfl (lv_at hl 0 rfl) ?_
  refine lv_iload_n hx hb dX10_played_1 rfl (lv_at hl 1 rfl) ?_
  refine g0_i (rS (rest := [.ref q1]) hx hb hml hown hE hP hD (c94_X10_isPattern l g 2 (by decide) (by decide) s.heap.size) (kS_X10_isPattern hE (e1428 hE) rfl rfl ⟨(Nat.le_of_ble_eq_true rfl), (Nat.le_of_ble_eq_true rfl)⟩) [] rfl (by decide) rfl hl.1 rfl (lv_room (Nat.le_of_ble_eq_true rfl)) dX10_played_2 ⟨(Nat.le_of_ble_eq_true rfl), (Nat.le_of_ble_eq_true rfl)⟩) hP hD hS hA (fun u9 H locs hP hS => ?_)
  refine lv_if_ne (tgt := 12) hx hb dX10_played_5 (by decide) (fun _ => ?_) (fun h => absurd h (by decide))
  refine lv_iload_n hx hb dX10_played_12 rfl (lv_at hl 3 rfl) ?_
  refine lv_iconst (v := 0) hx hb dX10_played_13 (by decide) ?_
  refine lv_iconst (v := 3) hx hb dX10_played_14 (by decide) ?_
  refine g0_i (rS (rest := [.ref q1]) hx hb hml hown hE hP hD (c818_X10_in l g x3 h4 h5 H.size) (kS_X10_in hE (e1431 hE) rfl rfl ⟨(Nat.le_of_ble_eq_true rfl), (Nat.le_of_ble_eq_true rfl)⟩) [] rfl (by decide) rfl hl.1 rfl (lv_room (Nat.le_of_ble_eq_true rfl)) dX10_played_15 ⟨(Nat.le_of_ble_eq_true rfl), (Nat.le_of_ble_eq_true rfl)⟩) hP hD hS hA (fun u9 H locs hP hS => ?_)
  refine lv_if_ne (tgt := 25) hx hb dX10_played_18 (by decide) (fun _ => ?_) (fun h => absurd h (by decide))
  refine lv_iconst (v := 0) hx hb dX10_played_25 (by decide) ?_
  refine pf_RX10_86 (ws' := [(q45, .inl (g.2 0, 8, .inl f55)), (q44, .inl (g.2 0, 8, .inl f55)), (q43, .inl (g.2 0, 497, .inl f46)), (q1, .inr (12, [.ref q43, w7, w8, w9, w10, w11, .int 0, .ref q44, .ref q45, w15, w16, w17, w18, w19, w20, w21, w22, w23, w24, w25, w26, w27, w28, w29, w30, w31, w32, w33, w34, w35, w36, w37, w38, w39, w40, w41, w42]))]) hx hb hown hE hP hD hS 3 rfl rfl rfl (Nat.le_of_ble_eq_true rfl) dX10_played_26 rfl (fun H locs hP hD hS => ?_)
  refine lv_aload_n hx hb dX10_played_29 rfl (lv_at hl 0 rfl) ?_
  refine gf_RX10_86 hx hb hown hE hP 3 rfl rfl dX10_played_30 ?_
  refine lv_if_le (tgt := 38) hx hb dX10_played_33 (by decide) (fun _ => ?_) (fun h => absurd (by decide) h)
  refine lv_aload_n hx hb dX10_played_38 rfl (lv_at hl 0 rfl) ?_
  refine g_v (wr := []) (rV (rest := []) hx hb hml hown hE hP hD 3 rfl rfl (c1241_X10_layLengths l g q1 q43 q44 q45 w7 w8 w9 w10 w11 (.int 0) w15 w16 w17 w18 w19 w20 w21 w22 w23 w24 w25 w26 w27 w28 w29 w30 w31 w32 w33 w34 w35 w36 w37 w38 w39 w40 w41 w42 f46 f55 (hf47) (hf56) (hf48) (hf57) (hf49) (hf58) (hf50) (hf59) (hf51) (hf60) (hf52) (hf61) (hf53) (hf62) (hf54) (hf63) H.size) (kV_X10_layLengths hE (e1452 hE) rfl rfl ⟨(Nat.le_of_ble_eq_true rfl), (Nat.le_of_ble_eq_true rfl)⟩) [0, 1, 2, 3] rfl (by decide) rfl hl.1 rfl (lv_room (Nat.le_of_ble_eq_true rfl)) dX10_played_39 ⟨(Nat.le_of_ble_eq_true rfl), (Nat.le_of_ble_eq_true rfl)⟩) hP hD hS hA [0, 1, 2, 3] [] rfl rfl (by decide) (by decide) (fun u3 H locs hP hD hS => ?_)
  have hP : va_P g.1 vwCl [(q45, .inl (g.2 0, 8, .inl f55)), (q44, .inl (g.2 0, 8, .inl f55)), (q43, .inl (g.2 0, 497, .inl f46)), (q1, .inr (12, [.ref q43, w7, w8, w9, w10, w11, .int 0, .ref q44, .ref q45, w15, w16, w17, w18, w19, w20, w21, w22, w23, w24, w25, w26, w27, w28, w29, w30, w31, w32, w33, w34, w35, w36, w37, w38, w39, w40, w41, w42]))] H := hP
  have hD : va_D A [(q45, .inl (g.2 0, 8, .inl f55)), (q44, .inl (g.2 0, 8, .inl f55)), (q43, .inl (g.2 0, 497, .inl f46)), (q1, .inr (12, [.ref q43, w7, w8, w9, w10, w11, .int 0, .ref q44, .ref q45, w15, w16, w17, w18, w19, w20, w21, w22, w23, w24, w25, w26, w27, w28, w29, w30, w31, w32, w33, w34, w35, w36, w37, w38, w39, w40, w41, w42]))] := hD
  refine lv_iload_n hx hb dX10_played_42 rfl (lv_at hl 2 rfl) ?_
  refine lv_iconst (v := 0) hx hb dX10_played_43 (by decide) ?_
  refine lv_aload_n hx hb dX10_played_44 rfl (lv_at hl 0 rfl) ?_
  refine gf_RX10_25 hx hb hown hE hP 3 rfl rfl dX10_played_45 ?_
  refine lv_iload_n hx hb dX10_played_48 rfl (lv_at hl 1 rfl) ?_
  refine x_iald (v := 0) hx hb hE hP 0 rfl 2 (x_in (by decide)) (by decide) hf58 dX10_played_49 ?_
  refine lv_iconst (v := 1) hx hb dX10_played_50 (by decide) ?_
  refine x_isub (v := (-1)) hx hb dX10_played_51 (by decide) ?_
  refine g0_i (rS (rest := []) hx hb hml hown hE hP hD (c649_X10_in l g x2 h64 H.size) (kS_X10_in hE (e1431 hE) rfl rfl ⟨(Nat.le_of_ble_eq_true rfl), (Nat.le_of_ble_eq_true rfl)⟩) [] rfl (by decide) rfl hl.1 rfl (lv_room (Nat.le_of_ble_eq_true rfl)) dX10_played_52 ⟨(Nat.le_of_ble_eq_true rfl), (Nat.le_of_ble_eq_true rfl)⟩) hP hD hS hA (fun u9 H locs hP hS => ?_)
  refine lv_if_ne (tgt := 64) hx hb dX10_played_55 (by decide) (fun h => absurd h (by decide)) (fun _ => ?_)
  refine lv_aload_n hx hb dX10_played_58 rfl (lv_at hl 0 rfl) ?_
  refine lv_iconst (v := 3) hx hb dX10_played_59 (by decide) ?_
  refine g_i (wr := [(q45, .inl (g.2 0, 8, .inl f55)), (q44, .inl (g.2 0, 8, .inl f55)), (q43, .inl (g.2 0, 497, .inl f46))]) (rV (rest := []) hx hb hml hown hE hP hD 3 rfl rfl (c1433_X10_refuse l g q1 (.ref q43) w7 w8 w9 w10 w11 (.int 0) (.ref q44) (.ref q45) w15 w16 w17 w18 w19 w20 w21 w22 w23 w24 w25 w26 w27 w28 w29 w30 w31 w32 w33 w34 w35 w36 w37 w38 w39 w40 w41 w42 H.size) (kV_X10_refuse hE (e1474 hE) rfl rfl ⟨(Nat.le_of_ble_eq_true rfl), (Nat.le_of_ble_eq_true rfl)⟩) [3] rfl (by decide) rfl hl.1 rfl (lv_room (Nat.le_of_ble_eq_true rfl)) dX10_played_60 ⟨(Nat.le_of_ble_eq_true rfl), (Nat.le_of_ble_eq_true rfl)⟩) hP hD hS hA [3] [0, 1, 2] rfl rfl (by decide) (by decide) (fun u5 H locs hP hD hS => ?_)
  have hP : va_P g.1 vwCl [(q45, .inl (g.2 0, 8, .inl f55)), (q44, .inl (g.2 0, 8, .inl f55)), (q43, .inl (g.2 0, 497, .inl f46)), (q1, .inr (12, [.ref q43, w7, w8, w9, w10, w11, .int 3, .ref q44, .ref q45, w15, w16, w17, w18, w19, w20, w21, w22, w23, w24, w25, w26, w27, w28, w29, w30, w31, w32, w33, w34, w35, w36, w37, w38, w39, w40, w41, w42]))] H := hP
  have hD : va_D A [(q45, .inl (g.2 0, 8, .inl f55)), (q44, .inl (g.2 0, 8, .inl f55)), (q43, .inl (g.2 0, 497, .inl f46)), (q1, .inr (12, [.ref q43, w7, w8, w9, w10, w11, .int 3, .ref q44, .ref q45, w15, w16, w17, w18, w19, w20, w21, w22, w23, w24, w25, w26, w27, w28, w29, w30, w31, w32, w33, w34, w35, w36, w37, w38, w39, w40, w41, w42]))] := hD
  exact x_zret hx hb hr rfl rfl hlocks hP hD hS hAe hsz (Nat.le_of_ble_eq_true rfl) (Nat.le_of_ble_eq_true rfl) (fun _ => 0) [3] (by decide) rfl dX10_played_63

set_option maxHeartbeats 4000000 in
set_option maxRecDepth 100000 in
theorem c1443_X3_findNote (l : Launch) (g : gG) (q1 q6 : Nat) (x2 : Int32) (w4 : Value) (f7 : Nat → Int32) (hf8 : f7 15 = 0) (h3 : (0 : Int32) ≤ x2) (sz : Nat) : Met l yX3_findNote [Cond.code yX3_findNote cX3_findNote 10 (some .int)] ({ frames := 1, cells := 0, slots := 0, locals := 23 } : Room) (va_Pc [.ref q1, .int 3, .int x2] (PX g sz [(q6, .inl (g.2 0, 40, .inl f7)), (q1, .inr (5, [w4, .ref q6]))])) (QI g [(q6, .inl (g.2 0, 40, .inl f7)), (q1, .inr (5, [w4, .ref q6]))] sz (-1) (fun _ => [(q6, .inl (g.2 0, 40, .inl f7)), (q1, .inr (5, [w4, .ref q6]))])) 0 0 (va_A [(q6, .inl (g.2 0, 40, .inl f7)), (q1, .inr (5, [w4, .ref q6]))] sz) := by
  refine ofN (by decide) (Nat.le_of_ble_eq_true rfl) rfl ?_
  intro p e s m args below meth c A ls hAe hsz hx hb hml hr hlocks hin hown hE hP hD hA hS hl
  have hown : s.vm.findClass RX3 = some m.cls := hown
  refine lv_iload_n hx hb dX3_findNote_0 rfl (lv_at hl 2 rfl) ?_
  refine lv_if_ge (tgt := 6) hx hb dX3_findNote_1 (by decide) (fun _ => ?_) (fun h => absurd h3 h)
  refine lv_iload_n hx hb dX3_findNote_6 rfl (lv_at hl 1 rfl) ?_
  refine lv_istore_n (lv' := [(3, .int 3), (0, .ref q1), (1, .int 3), (2, .int x2)]) hx hb dX3_findNote_7 rfl hl (by decide) rfl (fun ls hl => ?_)
  refine lv_iconst (v := 0) hx hb dX3_findNote_8 (by decide) ?_
  refine lv_istore (lv' := [(4, .int 0), (3, .int 3), (0, .ref q1), (1, .int 3), (2, .int x2)]) hx hb dX3_findNote_9 hl (by decide) rfl (fun ls hl => ?_)
  refine lv_iload_n hx hb dX3_findNote_11 rfl (lv_at hl 4 rfl) ?_
  refine lv_istore (lv' := [(5, .int x2), (4, .int 0), (3, .int 3), (0, .ref q1), (1, .int 3), (2, .int x2)]) hx hb dX3_findNote_12 hl (by decide) rfl (fun ls hl => ?_)
  refine lv_iconst (v := 0) hx hb dX3_findNote_14 (by decide) ?_
  refine lv_istore (lv' := [(6, .int 0), (5, .int x2), (4, .int 0), (3, .int 3), (0, .ref q1), (1, .int 3), (2, .int x2)]) hx hb dX3_findNote_15 hl (by decide) rfl (fun ls hl => ?_)
  refine lv_iconst (v := 0) hx hb dX3_findNote_17 (by decide) ?_
  refine lv_istore (lv' := [(7, .int 0), (6, .int 0), (5, .int x2), (4, .int 0), (3, .int 3), (0, .ref q1), (1, .int 3), (2, .int x2)]) hx hb dX3_findNote_18 hl (by decide) rfl (fun ls hl => ?_)
  refine lv_iload hx hb dX3_findNote_20 (lv_at hl 0 rfl) ?_
  refine lv_bipush (v := 96) hx hb dX3_findNote_22 (by decide) ?_
  refine lv_icmp_ge (tgt := 161) hx hb dX3_findNote_24 (by decide) (fun h => absurd h (by decide)) (fun _ => ?_)
  refine lv_iload hx hb dX3_findNote_27 (lv_at hl 3 rfl) ?_
  refine lv_aload_n hx hb dX3_findNote_29 rfl (lv_at hl 5 rfl) ?_
  refine lv_iload_n hx hb dX3_findNote_30 rfl (lv_at hl 4 rfl) ?_
  refine lv_iconst (v := 0) hx hb dX3_findNote_31 (by decide) ?_
  refine g_i (wr := []) (rV (rest := [.int 0]) hx hb hml hown hE hP hD 1 rfl rfl (c158_X3_figure l g q1 q6 w4 f7 (hf8) s.heap.size) (kV_X3_figure hE (e343 hE) rfl rfl ⟨(Nat.le_of_ble_eq_true rfl), (Nat.le_of_ble_eq_true rfl)⟩) [0, 1] rfl (by decide) rfl hl.1 rfl (lv_room (Nat.le_of_ble_eq_true rfl)) dX3_findNote_32 ⟨(Nat.le_of_ble_eq_true rfl), (Nat.le_of_ble_eq_true rfl)⟩) hP hD hS hA [0, 1] [] rfl rfl (by decide) (by decide) (fun u1 H locs hP hD hS => ?_)
  have hP : va_P g.1 vwCl [(q6, .inl (g.2 0, 40, .inl f7)), (q1, .inr (5, [w4, .ref q6]))] H := hP
  have hD : va_D A [(q6, .inl (g.2 0, 40, .inl f7)), (q1, .inr (5, [w4, .ref q6]))] := hD
  refine lv_icmp_ge (tgt := 161) hx hb dX3_findNote_35 (by decide) (fun _ => ?_) (fun h => absurd (by decide) h)
  refine lv_iconst (v := (-1)) hx hb dX3_findNote_161 (by decide) ?_
  exact x_zret hx hb hr rfl rfl hlocks hP hD hS hAe hsz (Nat.le_of_ble_eq_true rfl) (Nat.le_of_ble_eq_true rfl) (fun _ => 0) [0, 1] (by decide) rfl dX3_findNote_162

set_option maxHeartbeats 4000000 in
set_option maxRecDepth 100000 in
theorem c1444_X9_played (l : Launch) (g : gG) (hlx : l.stackTraces = false) (q1 q17 q21 q24 q32 q36 : Nat) (x2 x3 : Int32) (w7 w8 w9 w10 w11 w12 w13 w14 w15 w16 w20 w26 w27 w28 w29 w30 w31 w34 : Value) (f22 : Nat → Option Nat) (f37 : Nat → Int32) (hf23 : f22 0 = some q24) (hf38 : f37 15 = 0) (h4 : (0 : Int32) ≤ x3) (h5 : x3 ≤ 3) (h33 : (0 : Int32) ≤ x2) (sz : Nat) : vx_Met l yX9_played [Cond.code yX9_played cX9_played 6 (some .int)] ({ frames := 6, cells := 1, slots := 6, locals := 100 } : Room) (va_Pc [.ref q1, .int 3, .int x2, .int x3] (PZ g sz [(q36, .inl (g.2 0, 40, .inl f37)), (q32, .inr (5, [w34, .ref q36])), (q24, .inr (8, [.ref q32, w26, w27, w28, w29, w30, w31])), (q21, .inl (g.2 3, 10, .inr (.inr (.inr (.inr f22))))), (q17, .inr (10, [.ref q21, .int 0, w20])), (q1, .inr (11, [.ref q17, w7, w8, w9, w10, w11, w12, w13, w14, w15, w16]))])) NI (XW g [(q36, .inl (g.2 0, 40, .inl f37)), (q32, .inr (5, [w34, .ref q36])), (q24, .inr (8, [.ref q32, w26, w27, w28, w29, w30, w31])), (q21, .inl (g.2 3, 10, .inr (.inr (.inr (.inr f22))))), (q17, .inr (10, [.ref q21, .int 0, w20])), (q1, .inr (11, [.ref q17, w7, w8, w9, w10, w11, w12, w13, w14, w15, w16]))] sz "java/util/NoSuchElementException" [(q24, .inr (8, [.ref q32, w26, w27, w28, w29, w30, w31])), (q1, .inr (11, [.ref q17, w7, w8, w9, w10, w11, w12, w13, w14, w15, w16])), (q21, .inl (g.2 3, 10, .inr (.inr (.inr (.inr f22))))), (q17, .inr (10, [.ref q21, .int 0, w20])), (q36, .inl (g.2 0, 40, .inl f37)), (q32, .inr (5, [w34, .ref q36]))]) 1 6 (va_A [(q36, .inl (g.2 0, 40, .inl f37)), (q32, .inr (5, [w34, .ref q36])), (q24, .inr (8, [.ref q32, w26, w27, w28, w29, w30, w31])), (q21, .inl (g.2 3, 10, .inr (.inr (.inr (.inr f22))))), (q17, .inr (10, [.ref q21, .int 0, w20])), (q1, .inr (11, [.ref q17, w7, w8, w9, w10, w11, w12, w13, w14, w15, w16]))] sz) := by
  refine ofX (by decide) (Nat.le_of_ble_eq_true rfl) rfl ?_
  intro p e s m args below meth c A ls hAe hsz hx hb hml hr hlocks hin hown hE hP hD hA hS hl hex hz
  have hown : s.vm.findClass RX9 = some m.cls := hown
  refine lv_iload_n hx hb dX9_played_0 rfl (lv_at hl 1 rfl) ?_
  refine g0_v (rS (rest := []) hx hb hml hown hE hP hD (c89_X9_requirePattern l g 3 (by decide) (by decide) s.heap.size) (kS_X9_requirePattern hE (e617 hE) rfl rfl ⟨(Nat.le_of_ble_eq_true rfl), (Nat.le_of_ble_eq_true rfl)⟩) [] rfl (by decide) rfl hl.1 rfl (lv_room (Nat.le_of_ble_eq_true rfl)) dX9_played_1 ⟨(Nat.le_of_ble_eq_true rfl), (Nat.le_of_ble_eq_true rfl)⟩) hP hD hS hA (fun u9 H locs hP hS => ?_)
  refine lv_iload_n hx hb dX9_played_4 rfl (lv_at hl 3 rfl) ?_
  refine lv_iconst (v := 0) hx hb dX9_played_5 (by decide) ?_
  refine lv_iconst (v := 3) hx hb dX9_played_6 (by decide) ?_
  refine g0_v (rS (rest := []) hx hb hml hown hE hP hD (c815_X9_requireRange l g x3 h4 h5 H.size) (kS_X9_requireRange hE (e636 hE) rfl rfl ⟨(Nat.le_of_ble_eq_true rfl), (Nat.le_of_ble_eq_true rfl)⟩) [] rfl (by decide) rfl hl.1 rfl (lv_room (Nat.le_of_ble_eq_true rfl)) dX9_played_7 ⟨(Nat.le_of_ble_eq_true rfl), (Nat.le_of_ble_eq_true rfl)⟩) hP hD hS hA (fun u9 H locs hP hS => ?_)
  refine lv_aload_n hx hb dX9_played_10 rfl (lv_at hl 0 rfl) ?_
  refine gf_RX9_12 hx hb hown hE hP 5 rfl rfl dX9_played_11 ?_
  refine g_r (wr := [(q36, .inl (g.2 0, 40, .inl f37)), (q32, .inr (5, [w34, .ref q36])), (q24, .inr (8, [.ref q32, w26, w27, w28, w29, w30, w31])), (q1, .inr (11, [.ref q17, w7, w8, w9, w10, w11, w12, w13, w14, w15, w16]))]) (rV (rest := []) hx hb hml hown hE hP hD 4 rfl rfl (c71_X8_current l g q17 q21 q24 w20 f22 (hf23) H.size) (kV_X8_current hE (e290 hE) rfl rfl ⟨(Nat.le_of_ble_eq_true rfl), (Nat.le_of_ble_eq_true rfl)⟩) [3, 4] rfl (by decide) rfl hl.1 rfl (lv_room (Nat.le_of_ble_eq_true rfl)) dX9_played_14 ⟨(Nat.le_of_ble_eq_true rfl), (Nat.le_of_ble_eq_true rfl)⟩) hP hD hS hA [3, 4] [0, 1, 2, 5] rfl rfl (by decide) (by decide) (fun u3 H locs hP hD hS => ?_)
  have hP : va_P g.1 vwCl [(q36, .inl (g.2 0, 40, .inl f37)), (q32, .inr (5, [w34, .ref q36])), (q24, .inr (8, [.ref q32, w26, w27, w28, w29, w30, w31])), (q1, .inr (11, [.ref q17, w7, w8, w9, w10, w11, w12, w13, w14, w15, w16])), (q21, .inl (g.2 3, 10, .inr (.inr (.inr (.inr f22))))), (q17, .inr (10, [.ref q21, .int 0, w20]))] H := hP
  have hD : va_D A [(q36, .inl (g.2 0, 40, .inl f37)), (q32, .inr (5, [w34, .ref q36])), (q24, .inr (8, [.ref q32, w26, w27, w28, w29, w30, w31])), (q1, .inr (11, [.ref q17, w7, w8, w9, w10, w11, w12, w13, w14, w15, w16])), (q21, .inl (g.2 3, 10, .inr (.inr (.inr (.inr f22))))), (q17, .inr (10, [.ref q21, .int 0, w20]))] := hD
  refine gf_RX9_108 hx hb hown hE hP 2 rfl rfl dX9_played_17 ?_
  refine lv_astore (lv' := [(4, .ref q32), (0, .ref q1), (1, .int 3), (2, .int x2), (3, .int x3)]) hx hb dX9_played_20 hl (by decide) rfl (fun ls hl => ?_)
  refine lv_aload hx hb dX9_played_22 (lv_at hl 0 rfl) ?_
  refine lv_iload_n hx hb dX9_played_24 rfl (lv_at hl 2 rfl) ?_
  refine lv_iload_n hx hb dX9_played_25 rfl (lv_at hl 3 rfl) ?_
  refine g_i (wr := [(q24, .inr (8, [.ref q32, w26, w27, w28, w29, w30, w31])), (q1, .inr (11, [.ref q17, w7, w8, w9, w10, w11, w12, w13, w14, w15, w16])), (q21, .inl (g.2 3, 10, .inr (.inr (.inr (.inr f22))))), (q17, .inr (10, [.ref q21, .int 0, w20]))]) (rV (rest := []) hx hb hml hown hE hP hD 1 rfl rfl (c1443_X3_findNote l g q32 q36 x2 w34 f37 (hf38) h33 H.size) (kV_X3_findNote hE (e782 hE) rfl rfl ⟨(Nat.le_of_ble_eq_true rfl), (Nat.le_of_ble_eq_true rfl)⟩) [0, 1] rfl (by decide) rfl hl.1 rfl (lv_room (Nat.le_of_ble_eq_true rfl)) dX9_played_26 ⟨(Nat.le_of_ble_eq_true rfl), (Nat.le_of_ble_eq_true rfl)⟩) hP hD hS hA [0, 1] [2, 3, 4, 5] rfl rfl (by decide) (by decide) (fun u4 H locs hP hD hS => ?_)
  have hP : va_P g.1 vwCl [(q24, .inr (8, [.ref q32, w26, w27, w28, w29, w30, w31])), (q1, .inr (11, [.ref q17, w7, w8, w9, w10, w11, w12, w13, w14, w15, w16])), (q21, .inl (g.2 3, 10, .inr (.inr (.inr (.inr f22))))), (q17, .inr (10, [.ref q21, .int 0, w20])), (q36, .inl (g.2 0, 40, .inl f37)), (q32, .inr (5, [w34, .ref q36]))] H := hP
  have hD : va_D A [(q24, .inr (8, [.ref q32, w26, w27, w28, w29, w30, w31])), (q1, .inr (11, [.ref q17, w7, w8, w9, w10, w11, w12, w13, w14, w15, w16])), (q21, .inl (g.2 3, 10, .inr (.inr (.inr (.inr f22))))), (q17, .inr (10, [.ref q21, .int 0, w20])), (q36, .inl (g.2 0, 40, .inl f37)), (q32, .inr (5, [w34, .ref q36]))] := hD
  refine lv_istore (lv' := [(5, .int (-1)), (4, .ref q32), (0, .ref q1), (1, .int 3), (2, .int x2), (3, .int x3)]) hx hb dX9_played_29 hl (by decide) rfl (fun ls hl => ?_)
  refine lv_iload hx hb dX9_played_31 (lv_at hl 0 rfl) ?_
  refine lv_iconst (v := (-1)) hx hb dX9_played_33 (by decide) ?_
  refine lv_icmp_ne (tgt := 47) hx hb dX9_played_34 (by decide) (fun h => absurd h (by decide)) (fun _ => ?_)
  exact x_throwN (text := "no such note") hx hb hlx hown hE (e783 hE) (e23 hE) (by decide +kernel) hz (by rw [hml]; exact hl.1) dX9_played_37 dX9_played_40 dX9_played_41 dX9_played_43 dX9_played_46 hex (Nat.le_of_ble_eq_true rfl) (Nat.le_of_ble_eq_true rfl) (Nat.le_of_ble_eq_true rfl) (Nat.le_of_ble_eq_true rfl) hlocks hP hD hS hAe hsz (Nat.le_of_ble_eq_true rfl) (Nat.le_of_ble_eq_true rfl) [0, 1, 2, 3, 4, 5] (by decide) rfl

set_option maxHeartbeats 4000000 in
set_option maxRecDepth 100000 in
theorem c1445_L_played (l : Launch) (g : gG) (hlx : l.stackTraces = false) (q1 q4 q18 q22 q25 q33 q37 : Nat) (x2 x3 : Int32) (w8 w9 w10 w11 w12 w13 w14 w15 w16 w17 w21 w27 w28 w29 w30 w31 w32 w35 : Value) (f23 : Nat → Option Nat) (f38 : Nat → Int32) (hf24 : f23 0 = some q25) (hf39 : f38 15 = 0) (h5 : (0 : Int32) ≤ x3) (h6 : x3 ≤ 3) (h34 : (0 : Int32) ≤ x2) (sz : Nat) : Met l yL_played [Cond.codeWith yL_played cL_played 6 (some .int) [(0, 12, 15, 13), (0, 12, 19, 15), (0, 12, 23, 39)]] ({ frames := 7, cells := 1, slots := 6, locals := 125 } : Room) (va_Pc [.ref q1, .int 3, .int x2, .int x3, .ref q4] (PZ g sz [(q37, .inl (g.2 0, 40, .inl f38)), (q33, .inr (5, [w35, .ref q37])), (q25, .inr (8, [.ref q33, w27, w28, w29, w30, w31, w32])), (q22, .inl (g.2 3, 10, .inr (.inr (.inr (.inr f23))))), (q18, .inr (10, [.ref q22, .int 0, w21])), (q1, .inr (11, [.ref q18, w8, w9, w10, w11, w12, w13, w14, w15, w16, w17]))])) (QI g [(q37, .inl (g.2 0, 40, .inl f38)), (q33, .inr (5, [w35, .ref q37])), (q25, .inr (8, [.ref q33, w27, w28, w29, w30, w31, w32])), (q22, .inl (g.2 3, 10, .inr (.inr (.inr (.inr f23))))), (q18, .inr (10, [.ref q22, .int 0, w21])), (q1, .inr (11, [.ref q18, w8, w9, w10, w11, w12, w13, w14, w15, w16, w17]))] sz 3 (fun _ => [])) 1 6 (va_A [(q37, .inl (g.2 0, 40, .inl f38)), (q33, .inr (5, [w35, .ref q37])), (q25, .inr (8, [.ref q33, w27, w28, w29, w30, w31, w32])), (q22, .inl (g.2 3, 10, .inr (.inr (.inr (.inr f23))))), (q18, .inr (10, [.ref q22, .int 0, w21])), (q1, .inr (11, [.ref q18, w8, w9, w10, w11, w12, w13, w14, w15, w16, w17]))] sz) := by
  refine ofH (by decide) (Nat.le_of_ble_eq_true rfl) rfl ?_
  intro p e s m args below meth c A ls hAe hsz hx hb hml hr hlocks hin hown hE hP hD hA hS hl htb hz
  have hown : s.vm.findClass RL = some m.cls := hown
  refine lv_aload hx hb dL_played_0 (lv_at hl 4 rfl) ?_
  refine lv_iconst (v := 0) hx hb dL_played_2 (by decide) ?_
  refine lv_aload_n hx hb dL_played_3 rfl (lv_at hl 0 rfl) ?_
  refine lv_iload_n hx hb dL_played_4 rfl (lv_at hl 1 rfl) ?_
  refine lv_iload_n hx hb dL_played_5 rfl (lv_at hl 2 rfl) ?_
  refine lv_iload_n hx hb dL_played_6 rfl (lv_at hl 3 rfl) ?_
  refine gx_i (wr := []) (rVx (rest := [.int 0, .ref q4]) hx hb hml hown hE hP hD hS hA hz 5 rfl rfl (c1444_X9_played l g hlx q1 q18 q22 q25 q33 q37 x2 x3 w8 w9 w10 w11 w12 w13 w14 w15 w16 w17 w21 w27 w28 w29 w30 w31 w32 w35 f23 f38 (hf24) (hf39) h5 h6 h34 s.heap.size) (kV_X9_played hE (e778 hE) rfl rfl ⟨(Nat.le_of_ble_eq_true rfl), (Nat.le_of_ble_eq_true rfl)⟩) [0, 1, 2, 3, 4, 5] rfl (by decide) rfl hl.1 rfl (lv_room (Nat.le_of_ble_eq_true rfl)) dL_played_7 ⟨(Nat.le_of_ble_eq_true rfl), (Nat.le_of_ble_eq_true rfl)⟩) hP hD hS hA [0, 1, 2, 3, 4, 5] [] rfl rfl (by decide) (by decide) (fun ce9 q9 H locs hP hD hS hq1 hq2 hq3 => ?_)
  have hP : va_P g.1 vwCl [(q25, .inr (8, [.ref q33, w27, w28, w29, w30, w31, w32])), (q1, .inr (11, [.ref q18, w8, w9, w10, w11, w12, w13, w14, w15, w16, w17])), (q22, .inl (g.2 3, 10, .inr (.inr (.inr (.inr f23))))), (q18, .inr (10, [.ref q22, .int 0, w21])), (q37, .inl (g.2 0, 40, .inl f38)), (q33, .inr (5, [w35, .ref q37]))] H := hP
  have hD : va_D A [(q25, .inr (8, [.ref q33, w27, w28, w29, w30, w31, w32])), (q1, .inr (11, [.ref q18, w8, w9, w10, w11, w12, w13, w14, w15, w16, w17])), (q22, .inl (g.2 3, 10, .inr (.inr (.inr (.inr f23))))), (q18, .inr (10, [.ref q22, .int 0, w21])), (q37, .inl (g.2 0, 40, .inl f38)), (q33, .inr (5, [w35, .ref q37]))] := hD
  refine x_catch (name := "java/util/NoSuchElementException") (hh := [(0, 12, 15, 13), (0, 12, 19, 15), (0, 12, 23, 39)]) (tgt := 23) hown htb [⟨0, 12, 15, 13⟩, ⟨0, 12, 19, 15⟩] ⟨0, 12, 23, 39⟩ [] rfl (fun z hz => by
    rcases List.mem_cons.mp hz with rfl | hz
    · exact Or.inr ⟨by decide, "java/lang/IndexOutOfBoundsException", e532 hE, hE.2.2.2.2.2 ("java/util/NoSuchElementException", "java/lang/IndexOutOfBoundsException") (by decide +kernel)⟩
    rcases List.mem_cons.mp hz with rfl | hz
    · exact Or.inr ⟨by decide, "java/lang/IllegalArgumentException", e611 hE, hE.2.2.2.2.2 ("java/util/NoSuchElementException", "java/lang/IllegalArgumentException") (by decide +kernel)⟩
    exact nomatch hz) rfl (by decide) (e777 hE) (e785 hE) hq1 hq2 hq3 rfl ?_
  refine lv_astore (lv' := [(5, .ref q9), (0, .ref q1), (1, .int 3), (2, .int x2), (3, .int x3), (4, .ref q4)]) hx hb dL_played_23 hl (by decide) rfl (fun ls hl => ?_)
  refine lv_iconst (v := 3) hx hb dL_played_25 (by decide) ?_
  exact x_zret hx hb hr rfl rfl hlocks hP hD hS hAe hsz (Nat.le_of_ble_eq_true rfl) (Nat.le_of_ble_eq_true rfl) (fun _ => 0) [] (by decide) rfl dL_played_26

set_option maxHeartbeats 4000000 in
set_option maxRecDepth 100000 in
theorem c1446_X10_played (l : Launch) (g : gG) (q1 q43 q44 q45 : Nat) (x2 x3 : Int32) (w7 w8 w9 w10 w11 w12 w15 w16 w17 w18 w19 w20 w21 w22 w23 w24 w25 w26 w27 w28 w29 w30 w31 w32 w33 w34 w35 w36 w37 w38 w39 w40 w41 w42 : Value) (f46 : Nat → Int32) (f55 : Nat → Int32) (hf47 : f46 0 = 0) (hf48 : f46 49 = 0) (hf49 : f46 98 = 0) (hf50 : f46 147 = 0) (hf51 : f46 196 = 0) (hf52 : f46 245 = 0) (hf53 : f46 294 = 0) (hf54 : f46 343 = 0) (hf56 : f55 0 = 0) (hf57 : f55 1 = 0) (hf58 : f55 2 = 0) (hf59 : f55 3 = 0) (hf60 : f55 4 = 0) (hf61 : f55 5 = 0) (hf62 : f55 6 = 0) (hf63 : f55 7 = 0) (h4 : (0 : Int32) ≤ x3) (h5 : x3 ≤ 3) (h64 : (0 : Int32) ≤ x2) (sz : Nat) : Met l yX10_played [Cond.code yX10_played cX10_played 4 (some .int)] ({ frames := 3, cells := 0, slots := 0, locals := 66 } : Room) (va_Pc [.ref q1, .int 3, .int x2, .int x3] (PX g sz [(q45, .inl (g.2 0, 8, .inl f55)), (q44, .inl (g.2 0, 8, .inl f55)), (q43, .inl (g.2 0, 497, .inl f46)), (q1, .inr (12, [.ref q43, w7, w8, w9, w10, w11, w12, .ref q44, .ref q45, w15, w16, w17, w18, w19, w20, w21, w22, w23, w24, w25, w26, w27, w28, w29, w30, w31, w32, w33, w34, w35, w36, w37, w38, w39, w40, w41, w42]))])) (QI g [(q45, .inl (g.2 0, 8, .inl f55)), (q44, .inl (g.2 0, 8, .inl f55)), (q43, .inl (g.2 0, 497, .inl f46)), (q1, .inr (12, [.ref q43, w7, w8, w9, w10, w11, w12, .ref q44, .ref q45, w15, w16, w17, w18, w19, w20, w21, w22, w23, w24, w25, w26, w27, w28, w29, w30, w31, w32, w33, w34, w35, w36, w37, w38, w39, w40, w41, w42]))] sz 0 (fun _ => [(q1, .inr (12, [.ref q43, w7, w8, w9, w10, w11, .int 3, .ref q44, .ref q45, w15, w16, w17, w18, w19, w20, w21, w22, w23, w24, w25, w26, w27, w28, w29, w30, w31, w32, w33, w34, w35, w36, w37, w38, w39, w40, w41, w42]))])) 0 0 (va_A [(q45, .inl (g.2 0, 8, .inl f55)), (q44, .inl (g.2 0, 8, .inl f55)), (q43, .inl (g.2 0, 497, .inl f46)), (q1, .inr (12, [.ref q43, w7, w8, w9, w10, w11, w12, .ref q44, .ref q45, w15, w16, w17, w18, w19, w20, w21, w22, w23, w24, w25, w26, w27, w28, w29, w30, w31, w32, w33, w34, w35, w36, w37, w38, w39, w40, w41, w42]))] sz) := by
  refine ofN (by decide) (Nat.le_of_ble_eq_true rfl) rfl ?_
  intro p e s m args below meth c A ls hAe hsz hx hb hml hr hlocks hin hown hE hP hD hA hS hl
  have hown : s.vm.findClass RX10 = some m.cls := hown
  refine lv_aload_n hx hb dX10_played_0 rfl (lv_at hl 0 rfl) ?_
  refine lv_iload_n hx hb dX10_played_1 rfl (lv_at hl 1 rfl) ?_
  refine g0_i (rS (rest := [.ref q1]) hx hb hml hown hE hP hD (c94_X10_isPattern l g 3 (by decide) (by decide) s.heap.size) (kS_X10_isPattern hE (e1428 hE) rfl rfl ⟨(Nat.le_of_ble_eq_true rfl), (Nat.le_of_ble_eq_true rfl)⟩) [] rfl (by decide) rfl hl.1 rfl (lv_room (Nat.le_of_ble_eq_true rfl)) dX10_played_2 ⟨(Nat.le_of_ble_eq_true rfl), (Nat.le_of_ble_eq_true rfl)⟩) hP hD hS hA (fun u9 H locs hP hS => ?_)
  refine lv_if_ne (tgt := 12) hx hb dX10_played_5 (by decide) (fun _ => ?_) (fun h => absurd h (by decide))
  refine lv_iload_n hx hb dX10_played_12 rfl (lv_at hl 3 rfl) ?_
  refine lv_iconst (v := 0) hx hb dX10_played_13 (by decide) ?_
  refine lv_iconst (v := 3) hx hb dX10_played_14 (by decide) ?_
  refine g0_i (rS (rest := [.ref q1]) hx hb hml hown hE hP hD (c818_X10_in l g x3 h4 h5 H.size) (kS_X10_in hE (e1431 hE) rfl rfl ⟨(Nat.le_of_ble_eq_true rfl), (Nat.le_of_ble_eq_true rfl)⟩) [] rfl (by decide) rfl hl.1 rfl (lv_room (Nat.le_of_ble_eq_true rfl)) dX10_played_15 ⟨(Nat.le_of_ble_eq_true rfl), (Nat.le_of_ble_eq_true rfl)⟩) hP hD hS hA (fun u9 H locs hP hS => ?_)
  refine lv_if_ne (tgt := 25) hx hb dX10_played_18 (by decide) (fun _ => ?_) (fun h => absurd h (by decide))
  refine lv_iconst (v := 0) hx hb dX10_played_25 (by decide) ?_
  refine pf_RX10_86 (ws' := [(q45, .inl (g.2 0, 8, .inl f55)), (q44, .inl (g.2 0, 8, .inl f55)), (q43, .inl (g.2 0, 497, .inl f46)), (q1, .inr (12, [.ref q43, w7, w8, w9, w10, w11, .int 0, .ref q44, .ref q45, w15, w16, w17, w18, w19, w20, w21, w22, w23, w24, w25, w26, w27, w28, w29, w30, w31, w32, w33, w34, w35, w36, w37, w38, w39, w40, w41, w42]))]) hx hb hown hE hP hD hS 3 rfl rfl rfl (Nat.le_of_ble_eq_true rfl) dX10_played_26 rfl (fun H locs hP hD hS => ?_)
  refine lv_aload_n hx hb dX10_played_29 rfl (lv_at hl 0 rfl) ?_
  refine gf_RX10_86 hx hb hown hE hP 3 rfl rfl dX10_played_30 ?_
  refine lv_if_le (tgt := 38) hx hb dX10_played_33 (by decide) (fun _ => ?_) (fun h => absurd (by decide) h)
  refine lv_aload_n hx hb dX10_played_38 rfl (lv_at hl 0 rfl) ?_
  refine g_v (wr := []) (rV (rest := []) hx hb hml hown hE hP hD 3 rfl rfl (c1241_X10_layLengths l g q1 q43 q44 q45 w7 w8 w9 w10 w11 (.int 0) w15 w16 w17 w18 w19 w20 w21 w22 w23 w24 w25 w26 w27 w28 w29 w30 w31 w32 w33 w34 w35 w36 w37 w38 w39 w40 w41 w42 f46 f55 (hf47) (hf56) (hf48) (hf57) (hf49) (hf58) (hf50) (hf59) (hf51) (hf60) (hf52) (hf61) (hf53) (hf62) (hf54) (hf63) H.size) (kV_X10_layLengths hE (e1452 hE) rfl rfl ⟨(Nat.le_of_ble_eq_true rfl), (Nat.le_of_ble_eq_true rfl)⟩) [0, 1, 2, 3] rfl (by decide) rfl hl.1 rfl (lv_room (Nat.le_of_ble_eq_true rfl)) dX10_played_39 ⟨(Nat.le_of_ble_eq_true rfl), (Nat.le_of_ble_eq_true rfl)⟩) hP hD hS hA [0, 1, 2, 3] [] rfl rfl (by decide) (by decide) (fun u3 H locs hP hD hS => ?_)
  have hP : va_P g.1 vwCl [(q45, .inl (g.2 0, 8, .inl f55)), (q44, .inl (g.2 0, 8, .inl f55)), (q43, .inl (g.2 0, 497, .inl f46)), (q1, .inr (12, [.ref q43, w7, w8, w9, w10, w11, .int 0, .ref q44, .ref q45, w15, w16, w17, w18, w19, w20, w21, w22, w23, w24, w25, w26, w27, w28, w29, w30, w31, w32, w33, w34, w35, w36, w37, w38, w39, w40, w41, w42]))] H := hP
  have hD : va_D A [(q45, .inl (g.2 0, 8, .inl f55)), (q44, .inl (g.2 0, 8, .inl f55)), (q43, .inl (g.2 0, 497, .inl f46)), (q1, .inr (12, [.ref q43, w7, w8, w9, w10, w11, .int 0, .ref q44, .ref q45, w15, w16, w17, w18, w19, w20, w21, w22, w23, w24, w25, w26, w27, w28, w29, w30, w31, w32, w33, w34, w35, w36, w37, w38, w39, w40, w41, w42]))] := hD
  refine lv_iload_n hx hb dX10_played_42 rfl (lv_at hl 2 rfl) ?_
  refine lv_iconst (v := 0) hx hb dX10_played_43 (by decide) ?_
  refine lv_aload_n hx hb dX10_played_44 rfl (lv_at hl 0 rfl) ?_
  refine gf_RX10_25 hx hb hown hE hP 3 rfl rfl dX10_played_45 ?_
  refine lv_iload_n hx hb dX10_played_48 rfl (lv_at hl 1 rfl) ?_
  refine x_iald (v := 0) hx hb hE hP 0 rfl 3 (x_in (by decide)) (by decide) hf59 dX10_played_49 ?_
  refine lv_iconst (v := 1) hx hb dX10_played_50 (by decide) ?_
  refine x_isub (v := (-1)) hx hb dX10_played_51 (by decide) ?_
  refine g0_i (rS (rest := []) hx hb hml hown hE hP hD (c649_X10_in l g x2 h64 H.size) (kS_X10_in hE (e1431 hE) rfl rfl ⟨(Nat.le_of_ble_eq_true rfl), (Nat.le_of_ble_eq_true rfl)⟩) [] rfl (by decide) rfl hl.1 rfl (lv_room (Nat.le_of_ble_eq_true rfl)) dX10_played_52 ⟨(Nat.le_of_ble_eq_true rfl), (Nat.le_of_ble_eq_true rfl)⟩) hP hD hS hA (fun u9 H locs hP hS => ?_)
  refine lv_if_ne (tgt := 64) hx hb dX10_played_55 (by decide) (fun h => absurd h (by decide)) (fun _ => ?_)
  refine lv_aload_n hx hb dX10_played_58 rfl (lv_at hl 0 rfl) ?_
  refine lv_iconst (v := 3) hx hb dX10_played_59 (by decide) ?_
  refine g_i (wr := [(q45, .inl (g.2 0, 8, .inl f55)), (q44, .inl (g.2 0, 8, .inl f55)), (q43, .inl (g.2 0, 497, .inl f46))]) (rV (rest := []) hx hb hml hown hE hP hD 3 rfl rfl (c1433_X10_refuse l g q1 (.ref q43) w7 w8 w9 w10 w11 (.int 0) (.ref q44) (.ref q45) w15 w16 w17 w18 w19 w20 w21 w22 w23 w24 w25 w26 w27 w28 w29 w30 w31 w32 w33 w34 w35 w36 w37 w38 w39 w40 w41 w42 H.size) (kV_X10_refuse hE (e1474 hE) rfl rfl ⟨(Nat.le_of_ble_eq_true rfl), (Nat.le_of_ble_eq_true rfl)⟩) [3] rfl (by decide) rfl hl.1 rfl (lv_room (Nat.le_of_ble_eq_true rfl)) dX10_played_60 ⟨(Nat.le_of_ble_eq_true rfl), (Nat.le_of_ble_eq_true rfl)⟩) hP hD hS hA [3] [0, 1, 2] rfl rfl (by decide) (by decide) (fun u5 H locs hP hD hS => ?_)
  have hP : va_P g.1 vwCl [(q45, .inl (g.2 0, 8, .inl f55)), (q44, .inl (g.2 0, 8, .inl f55)), (q43, .inl (g.2 0, 497, .inl f46)), (q1, .inr (12, [.ref q43, w7, w8, w9, w10, w11, .int 3, .ref q44, .ref q45, w15, w16, w17, w18, w19, w20, w21, w22, w23, w24, w25, w26, w27, w28, w29, w30, w31, w32, w33, w34, w35, w36, w37, w38, w39, w40, w41, w42]))] H := hP
  have hD : va_D A [(q45, .inl (g.2 0, 8, .inl f55)), (q44, .inl (g.2 0, 8, .inl f55)), (q43, .inl (g.2 0, 497, .inl f46)), (q1, .inr (12, [.ref q43, w7, w8, w9, w10, w11, .int 3, .ref q44, .ref q45, w15, w16, w17, w18, w19, w20, w21, w22, w23, w24, w25, w26, w27, w28, w29, w30, w31, w32, w33, w34, w35, w36, w37, w38, w39, w40, w41, w42]))] := hD
  exact x_zret hx hb hr rfl rfl hlocks hP hD hS hAe hsz (Nat.le_of_ble_eq_true rfl) (Nat.le_of_ble_eq_true rfl) (fun _ => 0) [3] (by decide) rfl dX10_played_63

set_option maxHeartbeats 4000000 in
set_option maxRecDepth 100000 in
theorem c1447_X3_findNote (l : Launch) (g : gG) (q1 q6 : Nat) (x2 : Int32) (w4 : Value) (f7 : Nat → Int32) (hf8 : f7 20 = 0) (h3 : (0 : Int32) ≤ x2) (sz : Nat) : Met l yX3_findNote [Cond.code yX3_findNote cX3_findNote 10 (some .int)] ({ frames := 1, cells := 0, slots := 0, locals := 23 } : Room) (va_Pc [.ref q1, .int 4, .int x2] (PX g sz [(q6, .inl (g.2 0, 40, .inl f7)), (q1, .inr (5, [w4, .ref q6]))])) (QI g [(q6, .inl (g.2 0, 40, .inl f7)), (q1, .inr (5, [w4, .ref q6]))] sz (-1) (fun _ => [(q6, .inl (g.2 0, 40, .inl f7)), (q1, .inr (5, [w4, .ref q6]))])) 0 0 (va_A [(q6, .inl (g.2 0, 40, .inl f7)), (q1, .inr (5, [w4, .ref q6]))] sz) := by
  refine ofN (by decide) (Nat.le_of_ble_eq_true rfl) rfl ?_
  intro p e s m args below meth c A ls hAe hsz hx hb hml hr hlocks hin hown hE hP hD hA hS hl
  have hown : s.vm.findClass RX3 = some m.cls := hown
  refine lv_iload_n hx hb dX3_findNote_0 rfl (lv_at hl 2 rfl) ?_
  refine lv_if_ge (tgt := 6) hx hb dX3_findNote_1 (by decide) (fun _ => ?_) (fun h => absurd h3 h)
  refine lv_iload_n hx hb dX3_findNote_6 rfl (lv_at hl 1 rfl) ?_
  refine lv_istore_n (lv' := [(3, .int 4), (0, .ref q1), (1, .int 4), (2, .int x2)]) hx hb dX3_findNote_7 rfl hl (by decide) rfl (fun ls hl => ?_)
  refine lv_iconst (v := 0) hx hb dX3_findNote_8 (by decide) ?_
  refine lv_istore (lv' := [(4, .int 0), (3, .int 4), (0, .ref q1), (1, .int 4), (2, .int x2)]) hx hb dX3_findNote_9 hl (by decide) rfl (fun ls hl => ?_)
  refine lv_iload_n hx hb dX3_findNote_11 rfl (lv_at hl 4 rfl) ?_
  refine lv_istore (lv' := [(5, .int x2), (4, .int 0), (3, .int 4), (0, .ref q1), (1, .int 4), (2, .int x2)]) hx hb dX3_findNote_12 hl (by decide) rfl (fun ls hl => ?_)
  refine lv_iconst (v := 0) hx hb dX3_findNote_14 (by decide) ?_
  refine lv_istore (lv' := [(6, .int 0), (5, .int x2), (4, .int 0), (3, .int 4), (0, .ref q1), (1, .int 4), (2, .int x2)]) hx hb dX3_findNote_15 hl (by decide) rfl (fun ls hl => ?_)
  refine lv_iconst (v := 0) hx hb dX3_findNote_17 (by decide) ?_
  refine lv_istore (lv' := [(7, .int 0), (6, .int 0), (5, .int x2), (4, .int 0), (3, .int 4), (0, .ref q1), (1, .int 4), (2, .int x2)]) hx hb dX3_findNote_18 hl (by decide) rfl (fun ls hl => ?_)
  refine lv_iload hx hb dX3_findNote_20 (lv_at hl 0 rfl) ?_
  refine lv_bipush (v := 96) hx hb dX3_findNote_22 (by decide) ?_
  refine lv_icmp_ge (tgt := 161) hx hb dX3_findNote_24 (by decide) (fun h => absurd h (by decide)) (fun _ => ?_)
  refine lv_iload hx hb dX3_findNote_27 (lv_at hl 3 rfl) ?_
  refine lv_aload_n hx hb dX3_findNote_29 rfl (lv_at hl 5 rfl) ?_
  refine lv_iload_n hx hb dX3_findNote_30 rfl (lv_at hl 4 rfl) ?_
  refine lv_iconst (v := 0) hx hb dX3_findNote_31 (by decide) ?_
  refine g_i (wr := []) (rV (rest := [.int 0]) hx hb hml hown hE hP hD 1 rfl rfl (c164_X3_figure l g q1 q6 w4 f7 (hf8) s.heap.size) (kV_X3_figure hE (e343 hE) rfl rfl ⟨(Nat.le_of_ble_eq_true rfl), (Nat.le_of_ble_eq_true rfl)⟩) [0, 1] rfl (by decide) rfl hl.1 rfl (lv_room (Nat.le_of_ble_eq_true rfl)) dX3_findNote_32 ⟨(Nat.le_of_ble_eq_true rfl), (Nat.le_of_ble_eq_true rfl)⟩) hP hD hS hA [0, 1] [] rfl rfl (by decide) (by decide) (fun u1 H locs hP hD hS => ?_)
  have hP : va_P g.1 vwCl [(q6, .inl (g.2 0, 40, .inl f7)), (q1, .inr (5, [w4, .ref q6]))] H := hP
  have hD : va_D A [(q6, .inl (g.2 0, 40, .inl f7)), (q1, .inr (5, [w4, .ref q6]))] := hD
  refine lv_icmp_ge (tgt := 161) hx hb dX3_findNote_35 (by decide) (fun _ => ?_) (fun h => absurd (by decide) h)
  refine lv_iconst (v := (-1)) hx hb dX3_findNote_161 (by decide) ?_
  exact x_zret hx hb hr rfl rfl hlocks hP hD hS hAe hsz (Nat.le_of_ble_eq_true rfl) (Nat.le_of_ble_eq_true rfl) (fun _ => 0) [0, 1] (by decide) rfl dX3_findNote_162

set_option maxHeartbeats 4000000 in
set_option maxRecDepth 100000 in
theorem c1448_X9_played (l : Launch) (g : gG) (hlx : l.stackTraces = false) (q1 q17 q21 q24 q32 q36 : Nat) (x2 x3 : Int32) (w7 w8 w9 w10 w11 w12 w13 w14 w15 w16 w20 w26 w27 w28 w29 w30 w31 w34 : Value) (f22 : Nat → Option Nat) (f37 : Nat → Int32) (hf23 : f22 0 = some q24) (hf38 : f37 20 = 0) (h4 : (0 : Int32) ≤ x3) (h5 : x3 ≤ 3) (h33 : (0 : Int32) ≤ x2) (sz : Nat) : vx_Met l yX9_played [Cond.code yX9_played cX9_played 6 (some .int)] ({ frames := 6, cells := 1, slots := 6, locals := 100 } : Room) (va_Pc [.ref q1, .int 4, .int x2, .int x3] (PZ g sz [(q36, .inl (g.2 0, 40, .inl f37)), (q32, .inr (5, [w34, .ref q36])), (q24, .inr (8, [.ref q32, w26, w27, w28, w29, w30, w31])), (q21, .inl (g.2 3, 10, .inr (.inr (.inr (.inr f22))))), (q17, .inr (10, [.ref q21, .int 0, w20])), (q1, .inr (11, [.ref q17, w7, w8, w9, w10, w11, w12, w13, w14, w15, w16]))])) NI (XW g [(q36, .inl (g.2 0, 40, .inl f37)), (q32, .inr (5, [w34, .ref q36])), (q24, .inr (8, [.ref q32, w26, w27, w28, w29, w30, w31])), (q21, .inl (g.2 3, 10, .inr (.inr (.inr (.inr f22))))), (q17, .inr (10, [.ref q21, .int 0, w20])), (q1, .inr (11, [.ref q17, w7, w8, w9, w10, w11, w12, w13, w14, w15, w16]))] sz "java/util/NoSuchElementException" [(q24, .inr (8, [.ref q32, w26, w27, w28, w29, w30, w31])), (q1, .inr (11, [.ref q17, w7, w8, w9, w10, w11, w12, w13, w14, w15, w16])), (q21, .inl (g.2 3, 10, .inr (.inr (.inr (.inr f22))))), (q17, .inr (10, [.ref q21, .int 0, w20])), (q36, .inl (g.2 0, 40, .inl f37)), (q32, .inr (5, [w34, .ref q36]))]) 1 6 (va_A [(q36, .inl (g.2 0, 40, .inl f37)), (q32, .inr (5, [w34, .ref q36])), (q24, .inr (8, [.ref q32, w26, w27, w28, w29, w30, w31])), (q21, .inl (g.2 3, 10, .inr (.inr (.inr (.inr f22))))), (q17, .inr (10, [.ref q21, .int 0, w20])), (q1, .inr (11, [.ref q17, w7, w8, w9, w10, w11, w12, w13, w14, w15, w16]))] sz) := by
  refine ofX (by decide) (Nat.le_of_ble_eq_true rfl) rfl ?_
  intro p e s m args below meth c A ls hAe hsz hx hb hml hr hlocks hin hown hE hP hD hA hS hl hex hz
  have hown : s.vm.findClass RX9 = some m.cls := hown
  refine lv_iload_n hx hb dX9_played_0 rfl (lv_at hl 1 rfl) ?_
  refine g0_v (rS (rest := []) hx hb hml hown hE hP hD (c89_X9_requirePattern l g 4 (by decide) (by decide) s.heap.size) (kS_X9_requirePattern hE (e617 hE) rfl rfl ⟨(Nat.le_of_ble_eq_true rfl), (Nat.le_of_ble_eq_true rfl)⟩) [] rfl (by decide) rfl hl.1 rfl (lv_room (Nat.le_of_ble_eq_true rfl)) dX9_played_1 ⟨(Nat.le_of_ble_eq_true rfl), (Nat.le_of_ble_eq_true rfl)⟩) hP hD hS hA (fun u9 H locs hP hS => ?_)
  refine lv_iload_n hx hb dX9_played_4 rfl (lv_at hl 3 rfl) ?_
  refine lv_iconst (v := 0) hx hb dX9_played_5 (by decide) ?_
  refine lv_iconst (v := 3) hx hb dX9_played_6 (by decide) ?_
  refine g0_v (rS (rest := []) hx hb hml hown hE hP hD (c815_X9_requireRange l g x3 h4 h5 H.size) (kS_X9_requireRange hE (e636 hE) rfl rfl ⟨(Nat.le_of_ble_eq_true rfl), (Nat.le_of_ble_eq_true rfl)⟩) [] rfl (by decide) rfl hl.1 rfl (lv_room (Nat.le_of_ble_eq_true rfl)) dX9_played_7 ⟨(Nat.le_of_ble_eq_true rfl), (Nat.le_of_ble_eq_true rfl)⟩) hP hD hS hA (fun u9 H locs hP hS => ?_)
  refine lv_aload_n hx hb dX9_played_10 rfl (lv_at hl 0 rfl) ?_
  refine gf_RX9_12 hx hb hown hE hP 5 rfl rfl dX9_played_11 ?_
  refine g_r (wr := [(q36, .inl (g.2 0, 40, .inl f37)), (q32, .inr (5, [w34, .ref q36])), (q24, .inr (8, [.ref q32, w26, w27, w28, w29, w30, w31])), (q1, .inr (11, [.ref q17, w7, w8, w9, w10, w11, w12, w13, w14, w15, w16]))]) (rV (rest := []) hx hb hml hown hE hP hD 4 rfl rfl (c71_X8_current l g q17 q21 q24 w20 f22 (hf23) H.size) (kV_X8_current hE (e290 hE) rfl rfl ⟨(Nat.le_of_ble_eq_true rfl), (Nat.le_of_ble_eq_true rfl)⟩) [3, 4] rfl (by decide) rfl hl.1 rfl (lv_room (Nat.le_of_ble_eq_true rfl)) dX9_played_14 ⟨(Nat.le_of_ble_eq_true rfl), (Nat.le_of_ble_eq_true rfl)⟩) hP hD hS hA [3, 4] [0, 1, 2, 5] rfl rfl (by decide) (by decide) (fun u3 H locs hP hD hS => ?_)
  have hP : va_P g.1 vwCl [(q36, .inl (g.2 0, 40, .inl f37)), (q32, .inr (5, [w34, .ref q36])), (q24, .inr (8, [.ref q32, w26, w27, w28, w29, w30, w31])), (q1, .inr (11, [.ref q17, w7, w8, w9, w10, w11, w12, w13, w14, w15, w16])), (q21, .inl (g.2 3, 10, .inr (.inr (.inr (.inr f22))))), (q17, .inr (10, [.ref q21, .int 0, w20]))] H := hP
  have hD : va_D A [(q36, .inl (g.2 0, 40, .inl f37)), (q32, .inr (5, [w34, .ref q36])), (q24, .inr (8, [.ref q32, w26, w27, w28, w29, w30, w31])), (q1, .inr (11, [.ref q17, w7, w8, w9, w10, w11, w12, w13, w14, w15, w16])), (q21, .inl (g.2 3, 10, .inr (.inr (.inr (.inr f22))))), (q17, .inr (10, [.ref q21, .int 0, w20]))] := hD
  refine gf_RX9_108 hx hb hown hE hP 2 rfl rfl dX9_played_17 ?_
  refine lv_astore (lv' := [(4, .ref q32), (0, .ref q1), (1, .int 4), (2, .int x2), (3, .int x3)]) hx hb dX9_played_20 hl (by decide) rfl (fun ls hl => ?_)
  refine lv_aload hx hb dX9_played_22 (lv_at hl 0 rfl) ?_
  refine lv_iload_n hx hb dX9_played_24 rfl (lv_at hl 2 rfl) ?_
  refine lv_iload_n hx hb dX9_played_25 rfl (lv_at hl 3 rfl) ?_
  refine g_i (wr := [(q24, .inr (8, [.ref q32, w26, w27, w28, w29, w30, w31])), (q1, .inr (11, [.ref q17, w7, w8, w9, w10, w11, w12, w13, w14, w15, w16])), (q21, .inl (g.2 3, 10, .inr (.inr (.inr (.inr f22))))), (q17, .inr (10, [.ref q21, .int 0, w20]))]) (rV (rest := []) hx hb hml hown hE hP hD 1 rfl rfl (c1447_X3_findNote l g q32 q36 x2 w34 f37 (hf38) h33 H.size) (kV_X3_findNote hE (e782 hE) rfl rfl ⟨(Nat.le_of_ble_eq_true rfl), (Nat.le_of_ble_eq_true rfl)⟩) [0, 1] rfl (by decide) rfl hl.1 rfl (lv_room (Nat.le_of_ble_eq_true rfl)) dX9_played_26 ⟨(Nat.le_of_ble_eq_true rfl), (Nat.le_of_ble_eq_true rfl)⟩) hP hD hS hA [0, 1] [2, 3, 4, 5] rfl rfl (by decide) (by decide) (fun u4 H locs hP hD hS => ?_)
  have hP : va_P g.1 vwCl [(q24, .inr (8, [.ref q32, w26, w27, w28, w29, w30, w31])), (q1, .inr (11, [.ref q17, w7, w8, w9, w10, w11, w12, w13, w14, w15, w16])), (q21, .inl (g.2 3, 10, .inr (.inr (.inr (.inr f22))))), (q17, .inr (10, [.ref q21, .int 0, w20])), (q36, .inl (g.2 0, 40, .inl f37)), (q32, .inr (5, [w34, .ref q36]))] H := hP
  have hD : va_D A [(q24, .inr (8, [.ref q32, w26, w27, w28, w29, w30, w31])), (q1, .inr (11, [.ref q17, w7, w8, w9, w10, w11, w12, w13, w14, w15, w16])), (q21, .inl (g.2 3, 10, .inr (.inr (.inr (.inr f22))))), (q17, .inr (10, [.ref q21, .int 0, w20])), (q36, .inl (g.2 0, 40, .inl f37)), (q32, .inr (5, [w34, .ref q36]))] := hD
  refine lv_istore (lv' := [(5, .int (-1)), (4, .ref q32), (0, .ref q1), (1, .int 4), (2, .int x2), (3, .int x3)]) hx hb dX9_played_29 hl (by decide) rfl (fun ls hl => ?_)
  refine lv_iload hx hb dX9_played_31 (lv_at hl 0 rfl) ?_
  refine lv_iconst (v := (-1)) hx hb dX9_played_33 (by decide) ?_
  refine lv_icmp_ne (tgt := 47) hx hb dX9_played_34 (by decide) (fun h => absurd h (by decide)) (fun _ => ?_)
  exact x_throwN (text := "no such note") hx hb hlx hown hE (e783 hE) (e23 hE) (by decide +kernel) hz (by rw [hml]; exact hl.1) dX9_played_37 dX9_played_40 dX9_played_41 dX9_played_43 dX9_played_46 hex (Nat.le_of_ble_eq_true rfl) (Nat.le_of_ble_eq_true rfl) (Nat.le_of_ble_eq_true rfl) (Nat.le_of_ble_eq_true rfl) hlocks hP hD hS hAe hsz (Nat.le_of_ble_eq_true rfl) (Nat.le_of_ble_eq_true rfl) [0, 1, 2, 3, 4, 5] (by decide) rfl

set_option maxHeartbeats 4000000 in
set_option maxRecDepth 100000 in
theorem c1449_L_played (l : Launch) (g : gG) (hlx : l.stackTraces = false) (q1 q4 q18 q22 q25 q33 q37 : Nat) (x2 x3 : Int32) (w8 w9 w10 w11 w12 w13 w14 w15 w16 w17 w21 w27 w28 w29 w30 w31 w32 w35 : Value) (f23 : Nat → Option Nat) (f38 : Nat → Int32) (hf24 : f23 0 = some q25) (hf39 : f38 20 = 0) (h5 : (0 : Int32) ≤ x3) (h6 : x3 ≤ 3) (h34 : (0 : Int32) ≤ x2) (sz : Nat) : Met l yL_played [Cond.codeWith yL_played cL_played 6 (some .int) [(0, 12, 15, 13), (0, 12, 19, 15), (0, 12, 23, 39)]] ({ frames := 7, cells := 1, slots := 6, locals := 125 } : Room) (va_Pc [.ref q1, .int 4, .int x2, .int x3, .ref q4] (PZ g sz [(q37, .inl (g.2 0, 40, .inl f38)), (q33, .inr (5, [w35, .ref q37])), (q25, .inr (8, [.ref q33, w27, w28, w29, w30, w31, w32])), (q22, .inl (g.2 3, 10, .inr (.inr (.inr (.inr f23))))), (q18, .inr (10, [.ref q22, .int 0, w21])), (q1, .inr (11, [.ref q18, w8, w9, w10, w11, w12, w13, w14, w15, w16, w17]))])) (QI g [(q37, .inl (g.2 0, 40, .inl f38)), (q33, .inr (5, [w35, .ref q37])), (q25, .inr (8, [.ref q33, w27, w28, w29, w30, w31, w32])), (q22, .inl (g.2 3, 10, .inr (.inr (.inr (.inr f23))))), (q18, .inr (10, [.ref q22, .int 0, w21])), (q1, .inr (11, [.ref q18, w8, w9, w10, w11, w12, w13, w14, w15, w16, w17]))] sz 3 (fun _ => [])) 1 6 (va_A [(q37, .inl (g.2 0, 40, .inl f38)), (q33, .inr (5, [w35, .ref q37])), (q25, .inr (8, [.ref q33, w27, w28, w29, w30, w31, w32])), (q22, .inl (g.2 3, 10, .inr (.inr (.inr (.inr f23))))), (q18, .inr (10, [.ref q22, .int 0, w21])), (q1, .inr (11, [.ref q18, w8, w9, w10, w11, w12, w13, w14, w15, w16, w17]))] sz) := by
  refine ofH (by decide) (Nat.le_of_ble_eq_true rfl) rfl ?_
  intro p e s m args below meth c A ls hAe hsz hx hb hml hr hlocks hin hown hE hP hD hA hS hl htb hz
  have hown : s.vm.findClass RL = some m.cls := hown
  refine lv_aload hx hb dL_played_0 (lv_at hl 4 rfl) ?_
  refine lv_iconst (v := 0) hx hb dL_played_2 (by decide) ?_
  refine lv_aload_n hx hb dL_played_3 rfl (lv_at hl 0 rfl) ?_
  refine lv_iload_n hx hb dL_played_4 rfl (lv_at hl 1 rfl) ?_
  refine lv_iload_n hx hb dL_played_5 rfl (lv_at hl 2 rfl) ?_
  refine lv_iload_n hx hb dL_played_6 rfl (lv_at hl 3 rfl) ?_
  refine gx_i (wr := []) (rVx (rest := [.int 0, .ref q4]) hx hb hml hown hE hP hD hS hA hz 5 rfl rfl (c1448_X9_played l g hlx q1 q18 q22 q25 q33 q37 x2 x3 w8 w9 w10 w11 w12 w13 w14 w15 w16 w17 w21 w27 w28 w29 w30 w31 w32 w35 f23 f38 (hf24) (hf39) h5 h6 h34 s.heap.size) (kV_X9_played hE (e778 hE) rfl rfl ⟨(Nat.le_of_ble_eq_true rfl), (Nat.le_of_ble_eq_true rfl)⟩) [0, 1, 2, 3, 4, 5] rfl (by decide) rfl hl.1 rfl (lv_room (Nat.le_of_ble_eq_true rfl)) dL_played_7 ⟨(Nat.le_of_ble_eq_true rfl), (Nat.le_of_ble_eq_true rfl)⟩) hP hD hS hA [0, 1, 2, 3, 4, 5] [] rfl rfl (by decide) (by decide) (fun ce9 q9 H locs hP hD hS hq1 hq2 hq3 => ?_)
  have hP : va_P g.1 vwCl [(q25, .inr (8, [.ref q33, w27, w28, w29, w30, w31, w32])), (q1, .inr (11, [.ref q18, w8, w9, w10, w11, w12, w13, w14, w15, w16, w17])), (q22, .inl (g.2 3, 10, .inr (.inr (.inr (.inr f23))))), (q18, .inr (10, [.ref q22, .int 0, w21])), (q37, .inl (g.2 0, 40, .inl f38)), (q33, .inr (5, [w35, .ref q37]))] H := hP
  have hD : va_D A [(q25, .inr (8, [.ref q33, w27, w28, w29, w30, w31, w32])), (q1, .inr (11, [.ref q18, w8, w9, w10, w11, w12, w13, w14, w15, w16, w17])), (q22, .inl (g.2 3, 10, .inr (.inr (.inr (.inr f23))))), (q18, .inr (10, [.ref q22, .int 0, w21])), (q37, .inl (g.2 0, 40, .inl f38)), (q33, .inr (5, [w35, .ref q37]))] := hD
  refine x_catch (name := "java/util/NoSuchElementException") (hh := [(0, 12, 15, 13), (0, 12, 19, 15), (0, 12, 23, 39)]) (tgt := 23) hown htb [⟨0, 12, 15, 13⟩, ⟨0, 12, 19, 15⟩] ⟨0, 12, 23, 39⟩ [] rfl (fun z hz => by
    rcases List.mem_cons.mp hz with rfl | hz
    · exact Or.inr ⟨by decide, "java/lang/IndexOutOfBoundsException", e532 hE, hE.2.2.2.2.2 ("java/util/NoSuchElementException", "java/lang/IndexOutOfBoundsException") (by decide +kernel)⟩
    rcases List.mem_cons.mp hz with rfl | hz
    · exact Or.inr ⟨by decide, "java/lang/IllegalArgumentException", e611 hE, hE.2.2.2.2.2 ("java/util/NoSuchElementException", "java/lang/IllegalArgumentException") (by decide +kernel)⟩
    exact nomatch hz) rfl (by decide) (e777 hE) (e785 hE) hq1 hq2 hq3 rfl ?_
  refine lv_astore (lv' := [(5, .ref q9), (0, .ref q1), (1, .int 4), (2, .int x2), (3, .int x3), (4, .ref q4)]) hx hb dL_played_23 hl (by decide) rfl (fun ls hl => ?_)
  refine lv_iconst (v := 3) hx hb dL_played_25 (by decide) ?_
  exact x_zret hx hb hr rfl rfl hlocks hP hD hS hAe hsz (Nat.le_of_ble_eq_true rfl) (Nat.le_of_ble_eq_true rfl) (fun _ => 0) [] (by decide) rfl dL_played_26

set_option maxHeartbeats 4000000 in
set_option maxRecDepth 100000 in
theorem c1450_X10_played (l : Launch) (g : gG) (q1 q43 q44 q45 : Nat) (x2 x3 : Int32) (w7 w8 w9 w10 w11 w12 w15 w16 w17 w18 w19 w20 w21 w22 w23 w24 w25 w26 w27 w28 w29 w30 w31 w32 w33 w34 w35 w36 w37 w38 w39 w40 w41 w42 : Value) (f46 : Nat → Int32) (f55 : Nat → Int32) (hf47 : f46 0 = 0) (hf48 : f46 49 = 0) (hf49 : f46 98 = 0) (hf50 : f46 147 = 0) (hf51 : f46 196 = 0) (hf52 : f46 245 = 0) (hf53 : f46 294 = 0) (hf54 : f46 343 = 0) (hf56 : f55 0 = 0) (hf57 : f55 1 = 0) (hf58 : f55 2 = 0) (hf59 : f55 3 = 0) (hf60 : f55 4 = 0) (hf61 : f55 5 = 0) (hf62 : f55 6 = 0) (hf63 : f55 7 = 0) (h4 : (0 : Int32) ≤ x3) (h5 : x3 ≤ 3) (h64 : (0 : Int32) ≤ x2) (sz : Nat) : Met l yX10_played [Cond.code yX10_played cX10_played 4 (some .int)] ({ frames := 3, cells := 0, slots := 0, locals := 66 } : Room) (va_Pc [.ref q1, .int 4, .int x2, .int x3] (PX g sz [(q45, .inl (g.2 0, 8, .inl f55)), (q44, .inl (g.2 0, 8, .inl f55)), (q43, .inl (g.2 0, 497, .inl f46)), (q1, .inr (12, [.ref q43, w7, w8, w9, w10, w11, w12, .ref q44, .ref q45, w15, w16, w17, w18, w19, w20, w21, w22, w23, w24, w25, w26, w27, w28, w29, w30, w31, w32, w33, w34, w35, w36, w37, w38, w39, w40, w41, w42]))])) (QI g [(q45, .inl (g.2 0, 8, .inl f55)), (q44, .inl (g.2 0, 8, .inl f55)), (q43, .inl (g.2 0, 497, .inl f46)), (q1, .inr (12, [.ref q43, w7, w8, w9, w10, w11, w12, .ref q44, .ref q45, w15, w16, w17, w18, w19, w20, w21, w22, w23, w24, w25, w26, w27, w28, w29, w30, w31, w32, w33, w34, w35, w36, w37, w38, w39, w40, w41, w42]))] sz 0 (fun _ => [(q1, .inr (12, [.ref q43, w7, w8, w9, w10, w11, .int 3, .ref q44, .ref q45, w15, w16, w17, w18, w19, w20, w21, w22, w23, w24, w25, w26, w27, w28, w29, w30, w31, w32, w33, w34, w35, w36, w37, w38, w39, w40, w41, w42]))])) 0 0 (va_A [(q45, .inl (g.2 0, 8, .inl f55)), (q44, .inl (g.2 0, 8, .inl f55)), (q43, .inl (g.2 0, 497, .inl f46)), (q1, .inr (12, [.ref q43, w7, w8, w9, w10, w11, w12, .ref q44, .ref q45, w15, w16, w17, w18, w19, w20, w21, w22, w23, w24, w25, w26, w27, w28, w29, w30, w31, w32, w33, w34, w35, w36, w37, w38, w39, w40, w41, w42]))] sz) := by
  refine ofN (by decide) (Nat.le_of_ble_eq_true rfl) rfl ?_
  intro p e s m args below meth c A ls hAe hsz hx hb hml hr hlocks hin hown hE hP hD hA hS hl
  have hown : s.vm.findClass RX10 = some m.cls := hown
  refine lv_aload_n hx hb dX10_played_0 rfl (lv_at hl 0 rfl) ?_
  refine lv_iload_n hx hb dX10_played_1 rfl (lv_at hl 1 rfl) ?_
  refine g0_i (rS (rest := [.ref q1]) hx hb hml hown hE hP hD (c94_X10_isPattern l g 4 (by decide) (by decide) s.heap.size) (kS_X10_isPattern hE (e1428 hE) rfl rfl ⟨(Nat.le_of_ble_eq_true rfl), (Nat.le_of_ble_eq_true rfl)⟩) [] rfl (by decide) rfl hl.1 rfl (lv_room (Nat.le_of_ble_eq_true rfl)) dX10_played_2 ⟨(Nat.le_of_ble_eq_true rfl), (Nat.le_of_ble_eq_true rfl)⟩) hP hD hS hA (fun u9 H locs hP hS => ?_)
  refine lv_if_ne (tgt := 12) hx hb dX10_played_5 (by decide) (fun _ => ?_) (fun h => absurd h (by decide))
  refine lv_iload_n hx hb dX10_played_12 rfl (lv_at hl 3 rfl) ?_
  refine lv_iconst (v := 0) hx hb dX10_played_13 (by decide) ?_
  refine lv_iconst (v := 3) hx hb dX10_played_14 (by decide) ?_
  refine g0_i (rS (rest := [.ref q1]) hx hb hml hown hE hP hD (c818_X10_in l g x3 h4 h5 H.size) (kS_X10_in hE (e1431 hE) rfl rfl ⟨(Nat.le_of_ble_eq_true rfl), (Nat.le_of_ble_eq_true rfl)⟩) [] rfl (by decide) rfl hl.1 rfl (lv_room (Nat.le_of_ble_eq_true rfl)) dX10_played_15 ⟨(Nat.le_of_ble_eq_true rfl), (Nat.le_of_ble_eq_true rfl)⟩) hP hD hS hA (fun u9 H locs hP hS => ?_)
  refine lv_if_ne (tgt := 25) hx hb dX10_played_18 (by decide) (fun _ => ?_) (fun h => absurd h (by decide))
  refine lv_iconst (v := 0) hx hb dX10_played_25 (by decide) ?_
  refine pf_RX10_86 (ws' := [(q45, .inl (g.2 0, 8, .inl f55)), (q44, .inl (g.2 0, 8, .inl f55)), (q43, .inl (g.2 0, 497, .inl f46)), (q1, .inr (12, [.ref q43, w7, w8, w9, w10, w11, .int 0, .ref q44, .ref q45, w15, w16, w17, w18, w19, w20, w21, w22, w23, w24, w25, w26, w27, w28, w29, w30, w31, w32, w33, w34, w35, w36, w37, w38, w39, w40, w41, w42]))]) hx hb hown hE hP hD hS 3 rfl rfl rfl (Nat.le_of_ble_eq_true rfl) dX10_played_26 rfl (fun H locs hP hD hS => ?_)
  refine lv_aload_n hx hb dX10_played_29 rfl (lv_at hl 0 rfl) ?_
  refine gf_RX10_86 hx hb hown hE hP 3 rfl rfl dX10_played_30 ?_
  refine lv_if_le (tgt := 38) hx hb dX10_played_33 (by decide) (fun _ => ?_) (fun h => absurd (by decide) h)
  refine lv_aload_n hx hb dX10_played_38 rfl (lv_at hl 0 rfl) ?_
  refine g_v (wr := []) (rV (rest := []) hx hb hml hown hE hP hD 3 rfl rfl (c1241_X10_layLengths l g q1 q43 q44 q45 w7 w8 w9 w10 w11 (.int 0) w15 w16 w17 w18 w19 w20 w21 w22 w23 w24 w25 w26 w27 w28 w29 w30 w31 w32 w33 w34 w35 w36 w37 w38 w39 w40 w41 w42 f46 f55 (hf47) (hf56) (hf48) (hf57) (hf49) (hf58) (hf50) (hf59) (hf51) (hf60) (hf52) (hf61) (hf53) (hf62) (hf54) (hf63) H.size) (kV_X10_layLengths hE (e1452 hE) rfl rfl ⟨(Nat.le_of_ble_eq_true rfl), (Nat.le_of_ble_eq_true rfl)⟩) [0, 1, 2, 3] rfl (by decide) rfl hl.1 rfl (lv_room (Nat.le_of_ble_eq_true rfl)) dX10_played_39 ⟨(Nat.le_of_ble_eq_true rfl), (Nat.le_of_ble_eq_true rfl)⟩) hP hD hS hA [0, 1, 2, 3] [] rfl rfl (by decide) (by decide) (fun u3 H locs hP hD hS => ?_)
  have hP : va_P g.1 vwCl [(q45, .inl (g.2 0, 8, .inl f55)), (q44, .inl (g.2 0, 8, .inl f55)), (q43, .inl (g.2 0, 497, .inl f46)), (q1, .inr (12, [.ref q43, w7, w8, w9, w10, w11, .int 0, .ref q44, .ref q45, w15, w16, w17, w18, w19, w20, w21, w22, w23, w24, w25, w26, w27, w28, w29, w30, w31, w32, w33, w34, w35, w36, w37, w38, w39, w40, w41, w42]))] H := hP
  have hD : va_D A [(q45, .inl (g.2 0, 8, .inl f55)), (q44, .inl (g.2 0, 8, .inl f55)), (q43, .inl (g.2 0, 497, .inl f46)), (q1, .inr (12, [.ref q43, w7, w8, w9, w10, w11, .int 0, .ref q44, .ref q45, w15, w16, w17, w18, w19, w20, w21, w22, w23, w24, w25, w26, w27, w28, w29, w30, w31, w32, w33, w34, w35, w36, w37, w38, w39, w40, w41, w42]))] := hD
  refine lv_iload_n hx hb dX10_played_42 rfl (lv_at hl 2 rfl) ?_
  refine lv_iconst (v := 0) hx hb dX10_played_43 (by decide) ?_
  refine lv_aload_n hx hb dX10_played_44 rfl (lv_at hl 0 rfl) ?_
  refine gf_RX10_25 hx hb hown hE hP 3 rfl rfl dX10_played_45 ?_
  refine lv_iload_n hx hb dX10_played_48 rfl (lv_at hl 1 rfl) ?_
  refine x_iald (v := 0) hx hb hE hP 0 rfl 4 (x_in (by decide)) (by decide) hf60 dX10_played_49 ?_
  refine lv_iconst (v := 1) hx hb dX10_played_50 (by decide) ?_
  refine x_isub (v := (-1)) hx hb dX10_played_51 (by decide) ?_
  refine g0_i (rS (rest := []) hx hb hml hown hE hP hD (c649_X10_in l g x2 h64 H.size) (kS_X10_in hE (e1431 hE) rfl rfl ⟨(Nat.le_of_ble_eq_true rfl), (Nat.le_of_ble_eq_true rfl)⟩) [] rfl (by decide) rfl hl.1 rfl (lv_room (Nat.le_of_ble_eq_true rfl)) dX10_played_52 ⟨(Nat.le_of_ble_eq_true rfl), (Nat.le_of_ble_eq_true rfl)⟩) hP hD hS hA (fun u9 H locs hP hS => ?_)
  refine lv_if_ne (tgt := 64) hx hb dX10_played_55 (by decide) (fun h => absurd h (by decide)) (fun _ => ?_)
  refine lv_aload_n hx hb dX10_played_58 rfl (lv_at hl 0 rfl) ?_
  refine lv_iconst (v := 3) hx hb dX10_played_59 (by decide) ?_
  refine g_i (wr := [(q45, .inl (g.2 0, 8, .inl f55)), (q44, .inl (g.2 0, 8, .inl f55)), (q43, .inl (g.2 0, 497, .inl f46))]) (rV (rest := []) hx hb hml hown hE hP hD 3 rfl rfl (c1433_X10_refuse l g q1 (.ref q43) w7 w8 w9 w10 w11 (.int 0) (.ref q44) (.ref q45) w15 w16 w17 w18 w19 w20 w21 w22 w23 w24 w25 w26 w27 w28 w29 w30 w31 w32 w33 w34 w35 w36 w37 w38 w39 w40 w41 w42 H.size) (kV_X10_refuse hE (e1474 hE) rfl rfl ⟨(Nat.le_of_ble_eq_true rfl), (Nat.le_of_ble_eq_true rfl)⟩) [3] rfl (by decide) rfl hl.1 rfl (lv_room (Nat.le_of_ble_eq_true rfl)) dX10_played_60 ⟨(Nat.le_of_ble_eq_true rfl), (Nat.le_of_ble_eq_true rfl)⟩) hP hD hS hA [3] [0, 1, 2] rfl rfl (by decide) (by decide) (fun u5 H locs hP hD hS => ?_)
  have hP : va_P g.1 vwCl [(q45, .inl (g.2 0, 8, .inl f55)), (q44, .inl (g.2 0, 8, .inl f55)), (q43, .inl (g.2 0, 497, .inl f46)), (q1, .inr (12, [.ref q43, w7, w8, w9, w10, w11, .int 3, .ref q44, .ref q45, w15, w16, w17, w18, w19, w20, w21, w22, w23, w24, w25, w26, w27, w28, w29, w30, w31, w32, w33, w34, w35, w36, w37, w38, w39, w40, w41, w42]))] H := hP
  have hD : va_D A [(q45, .inl (g.2 0, 8, .inl f55)), (q44, .inl (g.2 0, 8, .inl f55)), (q43, .inl (g.2 0, 497, .inl f46)), (q1, .inr (12, [.ref q43, w7, w8, w9, w10, w11, .int 3, .ref q44, .ref q45, w15, w16, w17, w18, w19, w20, w21, w22, w23, w24, w25, w26, w27, w28, w29, w30, w31, w32, w33, w34, w35, w36, w37, w38, w39, w40, w41, w42]))] := hD
  exact x_zret hx hb hr rfl rfl hlocks hP hD hS hAe hsz (Nat.le_of_ble_eq_true rfl) (Nat.le_of_ble_eq_true rfl) (fun _ => 0) [3] (by decide) rfl dX10_played_63

set_option maxHeartbeats 4000000 in
set_option maxRecDepth 100000 in
theorem c1451_X3_findNote (l : Launch) (g : gG) (q1 q6 : Nat) (x2 : Int32) (w4 : Value) (f7 : Nat → Int32) (hf8 : f7 25 = 0) (h3 : (0 : Int32) ≤ x2) (sz : Nat) : Met l yX3_findNote [Cond.code yX3_findNote cX3_findNote 10 (some .int)] ({ frames := 1, cells := 0, slots := 0, locals := 23 } : Room) (va_Pc [.ref q1, .int 5, .int x2] (PX g sz [(q6, .inl (g.2 0, 40, .inl f7)), (q1, .inr (5, [w4, .ref q6]))])) (QI g [(q6, .inl (g.2 0, 40, .inl f7)), (q1, .inr (5, [w4, .ref q6]))] sz (-1) (fun _ => [(q6, .inl (g.2 0, 40, .inl f7)), (q1, .inr (5, [w4, .ref q6]))])) 0 0 (va_A [(q6, .inl (g.2 0, 40, .inl f7)), (q1, .inr (5, [w4, .ref q6]))] sz) := by
  refine ofN (by decide) (Nat.le_of_ble_eq_true rfl) rfl ?_
  intro p e s m args below meth c A ls hAe hsz hx hb hml hr hlocks hin hown hE hP hD hA hS hl
  have hown : s.vm.findClass RX3 = some m.cls := hown
  refine lv_iload_n hx hb dX3_findNote_0 rfl (lv_at hl 2 rfl) ?_
  refine lv_if_ge (tgt := 6) hx hb dX3_findNote_1 (by decide) (fun _ => ?_) (fun h => absurd h3 h)
  refine lv_iload_n hx hb dX3_findNote_6 rfl (lv_at hl 1 rfl) ?_
  refine lv_istore_n (lv' := [(3, .int 5), (0, .ref q1), (1, .int 5), (2, .int x2)]) hx hb dX3_findNote_7 rfl hl (by decide) rfl (fun ls hl => ?_)
  refine lv_iconst (v := 0) hx hb dX3_findNote_8 (by decide) ?_
  refine lv_istore (lv' := [(4, .int 0), (3, .int 5), (0, .ref q1), (1, .int 5), (2, .int x2)]) hx hb dX3_findNote_9 hl (by decide) rfl (fun ls hl => ?_)
  refine lv_iload_n hx hb dX3_findNote_11 rfl (lv_at hl 4 rfl) ?_
  refine lv_istore (lv' := [(5, .int x2), (4, .int 0), (3, .int 5), (0, .ref q1), (1, .int 5), (2, .int x2)]) hx hb dX3_findNote_12 hl (by decide) rfl (fun ls hl => ?_)
  refine lv_iconst (v := 0) hx hb dX3_findNote_14 (by decide) ?_
  refine lv_istore (lv' := [(6, .int 0), (5, .int x2), (4, .int 0), (3, .int 5), (0, .ref q1), (1, .int 5), (2, .int x2)]) hx hb dX3_findNote_15 hl (by decide) rfl (fun ls hl => ?_)
  refine lv_iconst (v := 0) hx hb dX3_findNote_17 (by decide) ?_
  refine lv_istore (lv' := [(7, .int 0), (6, .int 0), (5, .int x2), (4, .int 0), (3, .int 5), (0, .ref q1), (1, .int 5), (2, .int x2)]) hx hb dX3_findNote_18 hl (by decide) rfl (fun ls hl => ?_)
  refine lv_iload hx hb dX3_findNote_20 (lv_at hl 0 rfl) ?_
  refine lv_bipush (v := 96) hx hb dX3_findNote_22 (by decide) ?_
  refine lv_icmp_ge (tgt := 161) hx hb dX3_findNote_24 (by decide) (fun h => absurd h (by decide)) (fun _ => ?_)
  refine lv_iload hx hb dX3_findNote_27 (lv_at hl 3 rfl) ?_
  refine lv_aload_n hx hb dX3_findNote_29 rfl (lv_at hl 5 rfl) ?_
  refine lv_iload_n hx hb dX3_findNote_30 rfl (lv_at hl 4 rfl) ?_
  refine lv_iconst (v := 0) hx hb dX3_findNote_31 (by decide) ?_
  refine g_i (wr := []) (rV (rest := [.int 0]) hx hb hml hown hE hP hD 1 rfl rfl (c170_X3_figure l g q1 q6 w4 f7 (hf8) s.heap.size) (kV_X3_figure hE (e343 hE) rfl rfl ⟨(Nat.le_of_ble_eq_true rfl), (Nat.le_of_ble_eq_true rfl)⟩) [0, 1] rfl (by decide) rfl hl.1 rfl (lv_room (Nat.le_of_ble_eq_true rfl)) dX3_findNote_32 ⟨(Nat.le_of_ble_eq_true rfl), (Nat.le_of_ble_eq_true rfl)⟩) hP hD hS hA [0, 1] [] rfl rfl (by decide) (by decide) (fun u1 H locs hP hD hS => ?_)
  have hP : va_P g.1 vwCl [(q6, .inl (g.2 0, 40, .inl f7)), (q1, .inr (5, [w4, .ref q6]))] H := hP
  have hD : va_D A [(q6, .inl (g.2 0, 40, .inl f7)), (q1, .inr (5, [w4, .ref q6]))] := hD
  refine lv_icmp_ge (tgt := 161) hx hb dX3_findNote_35 (by decide) (fun _ => ?_) (fun h => absurd (by decide) h)
  refine lv_iconst (v := (-1)) hx hb dX3_findNote_161 (by decide) ?_
  exact x_zret hx hb hr rfl rfl hlocks hP hD hS hAe hsz (Nat.le_of_ble_eq_true rfl) (Nat.le_of_ble_eq_true rfl) (fun _ => 0) [0, 1] (by decide) rfl dX3_findNote_162

set_option maxHeartbeats 4000000 in
set_option maxRecDepth 100000 in
theorem c1452_X9_played (l : Launch) (g : gG) (hlx : l.stackTraces = false) (q1 q17 q21 q24 q32 q36 : Nat) (x2 x3 : Int32) (w7 w8 w9 w10 w11 w12 w13 w14 w15 w16 w20 w26 w27 w28 w29 w30 w31 w34 : Value) (f22 : Nat → Option Nat) (f37 : Nat → Int32) (hf23 : f22 0 = some q24) (hf38 : f37 25 = 0) (h4 : (0 : Int32) ≤ x3) (h5 : x3 ≤ 3) (h33 : (0 : Int32) ≤ x2) (sz : Nat) : vx_Met l yX9_played [Cond.code yX9_played cX9_played 6 (some .int)] ({ frames := 6, cells := 1, slots := 6, locals := 100 } : Room) (va_Pc [.ref q1, .int 5, .int x2, .int x3] (PZ g sz [(q36, .inl (g.2 0, 40, .inl f37)), (q32, .inr (5, [w34, .ref q36])), (q24, .inr (8, [.ref q32, w26, w27, w28, w29, w30, w31])), (q21, .inl (g.2 3, 10, .inr (.inr (.inr (.inr f22))))), (q17, .inr (10, [.ref q21, .int 0, w20])), (q1, .inr (11, [.ref q17, w7, w8, w9, w10, w11, w12, w13, w14, w15, w16]))])) NI (XW g [(q36, .inl (g.2 0, 40, .inl f37)), (q32, .inr (5, [w34, .ref q36])), (q24, .inr (8, [.ref q32, w26, w27, w28, w29, w30, w31])), (q21, .inl (g.2 3, 10, .inr (.inr (.inr (.inr f22))))), (q17, .inr (10, [.ref q21, .int 0, w20])), (q1, .inr (11, [.ref q17, w7, w8, w9, w10, w11, w12, w13, w14, w15, w16]))] sz "java/util/NoSuchElementException" [(q24, .inr (8, [.ref q32, w26, w27, w28, w29, w30, w31])), (q1, .inr (11, [.ref q17, w7, w8, w9, w10, w11, w12, w13, w14, w15, w16])), (q21, .inl (g.2 3, 10, .inr (.inr (.inr (.inr f22))))), (q17, .inr (10, [.ref q21, .int 0, w20])), (q36, .inl (g.2 0, 40, .inl f37)), (q32, .inr (5, [w34, .ref q36]))]) 1 6 (va_A [(q36, .inl (g.2 0, 40, .inl f37)), (q32, .inr (5, [w34, .ref q36])), (q24, .inr (8, [.ref q32, w26, w27, w28, w29, w30, w31])), (q21, .inl (g.2 3, 10, .inr (.inr (.inr (.inr f22))))), (q17, .inr (10, [.ref q21, .int 0, w20])), (q1, .inr (11, [.ref q17, w7, w8, w9, w10, w11, w12, w13, w14, w15, w16]))] sz) := by
  refine ofX (by decide) (Nat.le_of_ble_eq_true rfl) rfl ?_
  intro p e s m args below meth c A ls hAe hsz hx hb hml hr hlocks hin hown hE hP hD hA hS hl hex hz
  have hown : s.vm.findClass RX9 = some m.cls := hown
  refine lv_iload_n hx hb dX9_played_0 rfl (lv_at hl 1 rfl) ?_
  refine g0_v (rS (rest := []) hx hb hml hown hE hP hD (c89_X9_requirePattern l g 5 (by decide) (by decide) s.heap.size) (kS_X9_requirePattern hE (e617 hE) rfl rfl ⟨(Nat.le_of_ble_eq_true rfl), (Nat.le_of_ble_eq_true rfl)⟩) [] rfl (by decide) rfl hl.1 rfl (lv_room (Nat.le_of_ble_eq_true rfl)) dX9_played_1 ⟨(Nat.le_of_ble_eq_true rfl), (Nat.le_of_ble_eq_true rfl)⟩) hP hD hS hA (fun u9 H locs hP hS => ?_)
  refine lv_iload_n hx hb dX9_played_4 rfl (lv_at hl 3 rfl) ?_
  refine lv_iconst (v := 0) hx hb dX9_played_5 (by decide) ?_
  refine lv_iconst (v := 3) hx hb dX9_played_6 (by decide) ?_
  refine g0_v (rS (rest := []) hx hb hml hown hE hP hD (c815_X9_requireRange l g x3 h4 h5 H.size) (kS_X9_requireRange hE (e636 hE) rfl rfl ⟨(Nat.le_of_ble_eq_true rfl), (Nat.le_of_ble_eq_true rfl)⟩) [] rfl (by decide) rfl hl.1 rfl (lv_room (Nat.le_of_ble_eq_true rfl)) dX9_played_7 ⟨(Nat.le_of_ble_eq_true rfl), (Nat.le_of_ble_eq_true rfl)⟩) hP hD hS hA (fun u9 H locs hP hS => ?_)
  refine lv_aload_n hx hb dX9_played_10 rfl (lv_at hl 0 rfl) ?_
  refine gf_RX9_12 hx hb hown hE hP 5 rfl rfl dX9_played_11 ?_
  refine g_r (wr := [(q36, .inl (g.2 0, 40, .inl f37)), (q32, .inr (5, [w34, .ref q36])), (q24, .inr (8, [.ref q32, w26, w27, w28, w29, w30, w31])), (q1, .inr (11, [.ref q17, w7, w8, w9, w10, w11, w12, w13, w14, w15, w16]))]) (rV (rest := []) hx hb hml hown hE hP hD 4 rfl rfl (c71_X8_current l g q17 q21 q24 w20 f22 (hf23) H.size) (kV_X8_current hE (e290 hE) rfl rfl ⟨(Nat.le_of_ble_eq_true rfl), (Nat.le_of_ble_eq_true rfl)⟩) [3, 4] rfl (by decide) rfl hl.1 rfl (lv_room (Nat.le_of_ble_eq_true rfl)) dX9_played_14 ⟨(Nat.le_of_ble_eq_true rfl), (Nat.le_of_ble_eq_true rfl)⟩) hP hD hS hA [3, 4] [0, 1, 2, 5] rfl rfl (by decide) (by decide) (fun u3 H locs hP hD hS => ?_)
  have hP : va_P g.1 vwCl [(q36, .inl (g.2 0, 40, .inl f37)), (q32, .inr (5, [w34, .ref q36])), (q24, .inr (8, [.ref q32, w26, w27, w28, w29, w30, w31])), (q1, .inr (11, [.ref q17, w7, w8, w9, w10, w11, w12, w13, w14, w15, w16])), (q21, .inl (g.2 3, 10, .inr (.inr (.inr (.inr f22))))), (q17, .inr (10, [.ref q21, .int 0, w20]))] H := hP
  have hD : va_D A [(q36, .inl (g.2 0, 40, .inl f37)), (q32, .inr (5, [w34, .ref q36])), (q24, .inr (8, [.ref q32, w26, w27, w28, w29, w30, w31])), (q1, .inr (11, [.ref q17, w7, w8, w9, w10, w11, w12, w13, w14, w15, w16])), (q21, .inl (g.2 3, 10, .inr (.inr (.inr (.inr f22))))), (q17, .inr (10, [.ref q21, .int 0, w20]))] := hD
  refine gf_RX9_108 hx hb hown hE hP 2 rfl rfl dX9_played_17 ?_
  refine lv_astore (lv' := [(4, .ref q32), (0, .ref q1), (1, .int 5), (2, .int x2), (3, .int x3)]) hx hb dX9_played_20 hl (by decide) rfl (fun ls hl => ?_)
  refine lv_aload hx hb dX9_played_22 (lv_at hl 0 rfl) ?_
  refine lv_iload_n hx hb dX9_played_24 rfl (lv_at hl 2 rfl) ?_
  refine lv_iload_n hx hb dX9_played_25 rfl (lv_at hl 3 rfl) ?_
  refine g_i (wr := [(q24, .inr (8, [.ref q32, w26, w27, w28, w29, w30, w31])), (q1, .inr (11, [.ref q17, w7, w8, w9, w10, w11, w12, w13, w14, w15, w16])), (q21, .inl (g.2 3, 10, .inr (.inr (.inr (.inr f22))))), (q17, .inr (10, [.ref q21, .int 0, w20]))]) (rV (rest := []) hx hb hml hown hE hP hD 1 rfl rfl (c1451_X3_findNote l g q32 q36 x2 w34 f37 (hf38) h33 H.size) (kV_X3_findNote hE (e782 hE) rfl rfl ⟨(Nat.le_of_ble_eq_true rfl), (Nat.le_of_ble_eq_true rfl)⟩) [0, 1] rfl (by decide) rfl hl.1 rfl (lv_room (Nat.le_of_ble_eq_true rfl)) dX9_played_26 ⟨(Nat.le_of_ble_eq_true rfl), (Nat.le_of_ble_eq_true rfl)⟩) hP hD hS hA [0, 1] [2, 3, 4, 5] rfl rfl (by decide) (by decide) (fun u4 H locs hP hD hS => ?_)
  have hP : va_P g.1 vwCl [(q24, .inr (8, [.ref q32, w26, w27, w28, w29, w30, w31])), (q1, .inr (11, [.ref q17, w7, w8, w9, w10, w11, w12, w13, w14, w15, w16])), (q21, .inl (g.2 3, 10, .inr (.inr (.inr (.inr f22))))), (q17, .inr (10, [.ref q21, .int 0, w20])), (q36, .inl (g.2 0, 40, .inl f37)), (q32, .inr (5, [w34, .ref q36]))] H := hP
  have hD : va_D A [(q24, .inr (8, [.ref q32, w26, w27, w28, w29, w30, w31])), (q1, .inr (11, [.ref q17, w7, w8, w9, w10, w11, w12, w13, w14, w15, w16])), (q21, .inl (g.2 3, 10, .inr (.inr (.inr (.inr f22))))), (q17, .inr (10, [.ref q21, .int 0, w20])), (q36, .inl (g.2 0, 40, .inl f37)), (q32, .inr (5, [w34, .ref q36]))] := hD
  refine lv_istore (lv' := [(5, .int (-1)), (4, .ref q32), (0, .ref q1), (1, .int 5), (2, .int x2), (3, .int x3)]) hx hb dX9_played_29 hl (by decide) rfl (fun ls hl => ?_)
  refine lv_iload hx hb dX9_played_31 (lv_at hl 0 rfl) ?_
  refine lv_iconst (v := (-1)) hx hb dX9_played_33 (by decide) ?_
  refine lv_icmp_ne (tgt := 47) hx hb dX9_played_34 (by decide) (fun h => absurd h (by decide)) (fun _ => ?_)
  exact x_throwN (text := "no such note") hx hb hlx hown hE (e783 hE) (e23 hE) (by decide +kernel) hz (by rw [hml]; exact hl.1) dX9_played_37 dX9_played_40 dX9_played_41 dX9_played_43 dX9_played_46 hex (Nat.le_of_ble_eq_true rfl) (Nat.le_of_ble_eq_true rfl) (Nat.le_of_ble_eq_true rfl) (Nat.le_of_ble_eq_true rfl) hlocks hP hD hS hAe hsz (Nat.le_of_ble_eq_true rfl) (Nat.le_of_ble_eq_true rfl) [0, 1, 2, 3, 4, 5] (by decide) rfl

set_option maxHeartbeats 4000000 in
set_option maxRecDepth 100000 in
theorem c1453_L_played (l : Launch) (g : gG) (hlx : l.stackTraces = false) (q1 q4 q18 q22 q25 q33 q37 : Nat) (x2 x3 : Int32) (w8 w9 w10 w11 w12 w13 w14 w15 w16 w17 w21 w27 w28 w29 w30 w31 w32 w35 : Value) (f23 : Nat → Option Nat) (f38 : Nat → Int32) (hf24 : f23 0 = some q25) (hf39 : f38 25 = 0) (h5 : (0 : Int32) ≤ x3) (h6 : x3 ≤ 3) (h34 : (0 : Int32) ≤ x2) (sz : Nat) : Met l yL_played [Cond.codeWith yL_played cL_played 6 (some .int) [(0, 12, 15, 13), (0, 12, 19, 15), (0, 12, 23, 39)]] ({ frames := 7, cells := 1, slots := 6, locals := 125 } : Room) (va_Pc [.ref q1, .int 5, .int x2, .int x3, .ref q4] (PZ g sz [(q37, .inl (g.2 0, 40, .inl f38)), (q33, .inr (5, [w35, .ref q37])), (q25, .inr (8, [.ref q33, w27, w28, w29, w30, w31, w32])), (q22, .inl (g.2 3, 10, .inr (.inr (.inr (.inr f23))))), (q18, .inr (10, [.ref q22, .int 0, w21])), (q1, .inr (11, [.ref q18, w8, w9, w10, w11, w12, w13, w14, w15, w16, w17]))])) (QI g [(q37, .inl (g.2 0, 40, .inl f38)), (q33, .inr (5, [w35, .ref q37])), (q25, .inr (8, [.ref q33, w27, w28, w29, w30, w31, w32])), (q22, .inl (g.2 3, 10, .inr (.inr (.inr (.inr f23))))), (q18, .inr (10, [.ref q22, .int 0, w21])), (q1, .inr (11, [.ref q18, w8, w9, w10, w11, w12, w13, w14, w15, w16, w17]))] sz 3 (fun _ => [])) 1 6 (va_A [(q37, .inl (g.2 0, 40, .inl f38)), (q33, .inr (5, [w35, .ref q37])), (q25, .inr (8, [.ref q33, w27, w28, w29, w30, w31, w32])), (q22, .inl (g.2 3, 10, .inr (.inr (.inr (.inr f23))))), (q18, .inr (10, [.ref q22, .int 0, w21])), (q1, .inr (11, [.ref q18, w8, w9, w10, w11, w12, w13, w14, w15, w16, w17]))] sz) := by
  refine ofH (by decide) (Nat.le_of_ble_eq_true rfl) rfl ?_
  intro p e s m args below meth c A ls hAe hsz hx hb hml hr hlocks hin hown hE hP hD hA hS hl htb hz
  have hown : s.vm.findClass RL = some m.cls := hown
  refine lv_aload hx hb dL_played_0 (lv_at hl 4 rfl) ?_
  refine lv_iconst (v := 0) hx hb dL_played_2 (by decide) ?_
  refine lv_aload_n hx hb dL_played_3 rfl (lv_at hl 0 rfl) ?_
  refine lv_iload_n hx hb dL_played_4 rfl (lv_at hl 1 rfl) ?_
  refine lv_iload_n hx hb dL_played_5 rfl (lv_at hl 2 rfl) ?_
  refine lv_iload_n hx hb dL_played_6 rfl (lv_at hl 3 rfl) ?_
  refine gx_i (wr := []) (rVx (rest := [.int 0, .ref q4]) hx hb hml hown hE hP hD hS hA hz 5 rfl rfl (c1452_X9_played l g hlx q1 q18 q22 q25 q33 q37 x2 x3 w8 w9 w10 w11 w12 w13 w14 w15 w16 w17 w21 w27 w28 w29 w30 w31 w32 w35 f23 f38 (hf24) (hf39) h5 h6 h34 s.heap.size) (kV_X9_played hE (e778 hE) rfl rfl ⟨(Nat.le_of_ble_eq_true rfl), (Nat.le_of_ble_eq_true rfl)⟩) [0, 1, 2, 3, 4, 5] rfl (by decide) rfl hl.1 rfl (lv_room (Nat.le_of_ble_eq_true rfl)) dL_played_7 ⟨(Nat.le_of_ble_eq_true rfl), (Nat.le_of_ble_eq_true rfl)⟩) hP hD hS hA [0, 1, 2, 3, 4, 5] [] rfl rfl (by decide) (by decide) (fun ce9 q9 H locs hP hD hS hq1 hq2 hq3 => ?_)
  have hP : va_P g.1 vwCl [(q25, .inr (8, [.ref q33, w27, w28, w29, w30, w31, w32])), (q1, .inr (11, [.ref q18, w8, w9, w10, w11, w12, w13, w14, w15, w16, w17])), (q22, .inl (g.2 3, 10, .inr (.inr (.inr (.inr f23))))), (q18, .inr (10, [.ref q22, .int 0, w21])), (q37, .inl (g.2 0, 40, .inl f38)), (q33, .inr (5, [w35, .ref q37]))] H := hP
  have hD : va_D A [(q25, .inr (8, [.ref q33, w27, w28, w29, w30, w31, w32])), (q1, .inr (11, [.ref q18, w8, w9, w10, w11, w12, w13, w14, w15, w16, w17])), (q22, .inl (g.2 3, 10, .inr (.inr (.inr (.inr f23))))), (q18, .inr (10, [.ref q22, .int 0, w21])), (q37, .inl (g.2 0, 40, .inl f38)), (q33, .inr (5, [w35, .ref q37]))] := hD
  refine x_catch (name := "java/util/NoSuchElementException") (hh := [(0, 12, 15, 13), (0, 12, 19, 15), (0, 12, 23, 39)]) (tgt := 23) hown htb [⟨0, 12, 15, 13⟩, ⟨0, 12, 19, 15⟩] ⟨0, 12, 23, 39⟩ [] rfl (fun z hz => by
    rcases List.mem_cons.mp hz with rfl | hz
    · exact Or.inr ⟨by decide, "java/lang/IndexOutOfBoundsException", e532 hE, hE.2.2.2.2.2 ("java/util/NoSuchElementException", "java/lang/IndexOutOfBoundsException") (by decide +kernel)⟩
    rcases List.mem_cons.mp hz with rfl | hz
    · exact Or.inr ⟨by decide, "java/lang/IllegalArgumentException", e611 hE, hE.2.2.2.2.2 ("java/util/NoSuchElementException", "java/lang/IllegalArgumentException") (by decide +kernel)⟩
    exact nomatch hz) rfl (by decide) (e777 hE) (e785 hE) hq1 hq2 hq3 rfl ?_
  refine lv_astore (lv' := [(5, .ref q9), (0, .ref q1), (1, .int 5), (2, .int x2), (3, .int x3), (4, .ref q4)]) hx hb dL_played_23 hl (by decide) rfl (fun ls hl => ?_)
  refine lv_iconst (v := 3) hx hb dL_played_25 (by decide) ?_
  exact x_zret hx hb hr rfl rfl hlocks hP hD hS hAe hsz (Nat.le_of_ble_eq_true rfl) (Nat.le_of_ble_eq_true rfl) (fun _ => 0) [] (by decide) rfl dL_played_26

set_option maxHeartbeats 4000000 in
set_option maxRecDepth 100000 in
theorem c1454_X10_played (l : Launch) (g : gG) (q1 q43 q44 q45 : Nat) (x2 x3 : Int32) (w7 w8 w9 w10 w11 w12 w15 w16 w17 w18 w19 w20 w21 w22 w23 w24 w25 w26 w27 w28 w29 w30 w31 w32 w33 w34 w35 w36 w37 w38 w39 w40 w41 w42 : Value) (f46 : Nat → Int32) (f55 : Nat → Int32) (hf47 : f46 0 = 0) (hf48 : f46 49 = 0) (hf49 : f46 98 = 0) (hf50 : f46 147 = 0) (hf51 : f46 196 = 0) (hf52 : f46 245 = 0) (hf53 : f46 294 = 0) (hf54 : f46 343 = 0) (hf56 : f55 0 = 0) (hf57 : f55 1 = 0) (hf58 : f55 2 = 0) (hf59 : f55 3 = 0) (hf60 : f55 4 = 0) (hf61 : f55 5 = 0) (hf62 : f55 6 = 0) (hf63 : f55 7 = 0) (h4 : (0 : Int32) ≤ x3) (h5 : x3 ≤ 3) (h64 : (0 : Int32) ≤ x2) (sz : Nat) : Met l yX10_played [Cond.code yX10_played cX10_played 4 (some .int)] ({ frames := 3, cells := 0, slots := 0, locals := 66 } : Room) (va_Pc [.ref q1, .int 5, .int x2, .int x3] (PX g sz [(q45, .inl (g.2 0, 8, .inl f55)), (q44, .inl (g.2 0, 8, .inl f55)), (q43, .inl (g.2 0, 497, .inl f46)), (q1, .inr (12, [.ref q43, w7, w8, w9, w10, w11, w12, .ref q44, .ref q45, w15, w16, w17, w18, w19, w20, w21, w22, w23, w24, w25, w26, w27, w28, w29, w30, w31, w32, w33, w34, w35, w36, w37, w38, w39, w40, w41, w42]))])) (QI g [(q45, .inl (g.2 0, 8, .inl f55)), (q44, .inl (g.2 0, 8, .inl f55)), (q43, .inl (g.2 0, 497, .inl f46)), (q1, .inr (12, [.ref q43, w7, w8, w9, w10, w11, w12, .ref q44, .ref q45, w15, w16, w17, w18, w19, w20, w21, w22, w23, w24, w25, w26, w27, w28, w29, w30, w31, w32, w33, w34, w35, w36, w37, w38, w39, w40, w41, w42]))] sz 0 (fun _ => [(q1, .inr (12, [.ref q43, w7, w8, w9, w10, w11, .int 3, .ref q44, .ref q45, w15, w16, w17, w18, w19, w20, w21, w22, w23, w24, w25, w26, w27, w28, w29, w30, w31, w32, w33, w34, w35, w36, w37, w38, w39, w40, w41, w42]))])) 0 0 (va_A [(q45, .inl (g.2 0, 8, .inl f55)), (q44, .inl (g.2 0, 8, .inl f55)), (q43, .inl (g.2 0, 497, .inl f46)), (q1, .inr (12, [.ref q43, w7, w8, w9, w10, w11, w12, .ref q44, .ref q45, w15, w16, w17, w18, w19, w20, w21, w22, w23, w24, w25, w26, w27, w28, w29, w30, w31, w32, w33, w34, w35, w36, w37, w38, w39, w40, w41, w42]))] sz) := by
  refine ofN (by decide) (Nat.le_of_ble_eq_true rfl) rfl ?_
  intro p e s m args below meth c A ls hAe hsz hx hb hml hr hlocks hin hown hE hP hD hA hS hl
  have hown : s.vm.findClass RX10 = some m.cls := hown
  refine lv_aload_n hx hb dX10_played_0 rfl (lv_at hl 0 rfl) ?_
  refine lv_iload_n hx hb dX10_played_1 rfl (lv_at hl 1 rfl) ?_
  refine g0_i (rS (rest := [.ref q1]) hx hb hml hown hE hP hD (c94_X10_isPattern l g 5 (by decide) (by decide) s.heap.size) (kS_X10_isPattern hE (e1428 hE) rfl rfl ⟨(Nat.le_of_ble_eq_true rfl), (Nat.le_of_ble_eq_true rfl)⟩) [] rfl (by decide) rfl hl.1 rfl (lv_room (Nat.le_of_ble_eq_true rfl)) dX10_played_2 ⟨(Nat.le_of_ble_eq_true rfl), (Nat.le_of_ble_eq_true rfl)⟩) hP hD hS hA (fun u9 H locs hP hS => ?_)
  refine lv_if_ne (tgt := 12) hx hb dX10_played_5 (by decide) (fun _ => ?_) (fun h => absurd h (by decide))
  refine lv_iload_n hx hb dX10_played_12 rfl (lv_at hl 3 rfl) ?_
  refine lv_iconst (v := 0) hx hb dX10_played_13 (by decide) ?_
  refine lv_iconst (v := 3) hx hb dX10_played_14 (by decide) ?_
  refine g0_i (rS (rest := [.ref q1]) hx hb hml hown hE hP hD (c818_X10_in l g x3 h4 h5 H.size) (kS_X10_in hE (e1431 hE) rfl rfl ⟨(Nat.le_of_ble_eq_true rfl), (Nat.le_of_ble_eq_true rfl)⟩) [] rfl (by decide) rfl hl.1 rfl (lv_room (Nat.le_of_ble_eq_true rfl)) dX10_played_15 ⟨(Nat.le_of_ble_eq_true rfl), (Nat.le_of_ble_eq_true rfl)⟩) hP hD hS hA (fun u9 H locs hP hS => ?_)
  refine lv_if_ne (tgt := 25) hx hb dX10_played_18 (by decide) (fun _ => ?_) (fun h => absurd h (by decide))
  refine lv_iconst (v := 0) hx hb dX10_played_25 (by decide) ?_
  refine pf_RX10_86 (ws' := [(q45, .inl (g.2 0, 8, .inl f55)), (q44, .inl (g.2 0, 8, .inl f55)), (q43, .inl (g.2 0, 497, .inl f46)), (q1, .inr (12, [.ref q43, w7, w8, w9, w10, w11, .int 0, .ref q44, .ref q45, w15, w16, w17, w18, w19, w20, w21, w22, w23, w24, w25, w26, w27, w28, w29, w30, w31, w32, w33, w34, w35, w36, w37, w38, w39, w40, w41, w42]))]) hx hb hown hE hP hD hS 3 rfl rfl rfl (Nat.le_of_ble_eq_true rfl) dX10_played_26 rfl (fun H locs hP hD hS => ?_)
  refine lv_aload_n hx hb dX10_played_29 rfl (lv_at hl 0 rfl) ?_
  refine gf_RX10_86 hx hb hown hE hP 3 rfl rfl dX10_played_30 ?_
  refine lv_if_le (tgt := 38) hx hb dX10_played_33 (by decide) (fun _ => ?_) (fun h => absurd (by decide) h)
  refine lv_aload_n hx hb dX10_played_38 rfl (lv_at hl 0 rfl) ?_
  refine g_v (wr := []) (rV (rest := []) hx hb hml hown hE hP hD 3 rfl rfl (c1241_X10_layLengths l g q1 q43 q44 q45 w7 w8 w9 w10 w11 (.int 0) w15 w16 w17 w18 w19 w20 w21 w22 w23 w24 w25 w26 w27 w28 w29 w30 w31 w32 w33 w34 w35 w36 w37 w38 w39 w40 w41 w42 f46 f55 (hf47) (hf56) (hf48) (hf57) (hf49) (hf58) (hf50) (hf59) (hf51) (hf60) (hf52) (hf61) (hf53) (hf62) (hf54) (hf63) H.size) (kV_X10_layLengths hE (e1452 hE) rfl rfl ⟨(Nat.le_of_ble_eq_true rfl), (Nat.le_of_ble_eq_true rfl)⟩) [0, 1, 2, 3] rfl (by decide) rfl hl.1 rfl (lv_room (Nat.le_of_ble_eq_true rfl)) dX10_played_39 ⟨(Nat.le_of_ble_eq_true rfl), (Nat.le_of_ble_eq_true rfl)⟩) hP hD hS hA [0, 1, 2, 3] [] rfl rfl (by decide) (by decide) (fun u3 H locs hP hD hS => ?_)
  have hP : va_P g.1 vwCl [(q45, .inl (g.2 0, 8, .inl f55)), (q44, .inl (g.2 0, 8, .inl f55)), (q43, .inl (g.2 0, 497, .inl f46)), (q1, .inr (12, [.ref q43, w7, w8, w9, w10, w11, .int 0, .ref q44, .ref q45, w15, w16, w17, w18, w19, w20, w21, w22, w23, w24, w25, w26, w27, w28, w29, w30, w31, w32, w33, w34, w35, w36, w37, w38, w39, w40, w41, w42]))] H := hP
  have hD : va_D A [(q45, .inl (g.2 0, 8, .inl f55)), (q44, .inl (g.2 0, 8, .inl f55)), (q43, .inl (g.2 0, 497, .inl f46)), (q1, .inr (12, [.ref q43, w7, w8, w9, w10, w11, .int 0, .ref q44, .ref q45, w15, w16, w17, w18, w19, w20, w21, w22, w23, w24, w25, w26, w27, w28, w29, w30, w31, w32, w33, w34, w35, w36, w37, w38, w39, w40, w41, w42]))] := hD
  refine lv_iload_n hx hb dX10_played_42 rfl (lv_at hl 2 rfl) ?_
  refine lv_iconst (v := 0) hx hb dX10_played_43 (by decide) ?_
  refine lv_aload_n hx hb dX10_played_44 rfl (lv_at hl 0 rfl) ?_
  refine gf_RX10_25 hx hb hown hE hP 3 rfl rfl dX10_played_45 ?_
  refine lv_iload_n hx hb dX10_played_48 rfl (lv_at hl 1 rfl) ?_
  refine x_iald (v := 0) hx hb hE hP 0 rfl 5 (x_in (by decide)) (by decide) hf61 dX10_played_49 ?_
  refine lv_iconst (v := 1) hx hb dX10_played_50 (by decide) ?_
  refine x_isub (v := (-1)) hx hb dX10_played_51 (by decide) ?_
  refine g0_i (rS (rest := []) hx hb hml hown hE hP hD (c649_X10_in l g x2 h64 H.size) (kS_X10_in hE (e1431 hE) rfl rfl ⟨(Nat.le_of_ble_eq_true rfl), (Nat.le_of_ble_eq_true rfl)⟩) [] rfl (by decide) rfl hl.1 rfl (lv_room (Nat.le_of_ble_eq_true rfl)) dX10_played_52 ⟨(Nat.le_of_ble_eq_true rfl), (Nat.le_of_ble_eq_true rfl)⟩) hP hD hS hA (fun u9 H locs hP hS => ?_)
  refine lv_if_ne (tgt := 64) hx hb dX10_played_55 (by decide) (fun h => absurd h (by decide)) (fun _ => ?_)
  refine lv_aload_n hx hb dX10_played_58 rfl (lv_at hl 0 rfl) ?_
  refine lv_iconst (v := 3) hx hb dX10_played_59 (by decide) ?_
  refine g_i (wr := [(q45, .inl (g.2 0, 8, .inl f55)), (q44, .inl (g.2 0, 8, .inl f55)), (q43, .inl (g.2 0, 497, .inl f46))]) (rV (rest := []) hx hb hml hown hE hP hD 3 rfl rfl (c1433_X10_refuse l g q1 (.ref q43) w7 w8 w9 w10 w11 (.int 0) (.ref q44) (.ref q45) w15 w16 w17 w18 w19 w20 w21 w22 w23 w24 w25 w26 w27 w28 w29 w30 w31 w32 w33 w34 w35 w36 w37 w38 w39 w40 w41 w42 H.size) (kV_X10_refuse hE (e1474 hE) rfl rfl ⟨(Nat.le_of_ble_eq_true rfl), (Nat.le_of_ble_eq_true rfl)⟩) [3] rfl (by decide) rfl hl.1 rfl (lv_room (Nat.le_of_ble_eq_true rfl)) dX10_played_60 ⟨(Nat.le_of_ble_eq_true rfl), (Nat.le_of_ble_eq_true rfl)⟩) hP hD hS hA [3] [0, 1, 2] rfl rfl (by decide) (by decide) (fun u5 H locs hP hD hS => ?_)
  have hP : va_P g.1 vwCl [(q45, .inl (g.2 0, 8, .inl f55)), (q44, .inl (g.2 0, 8, .inl f55)), (q43, .inl (g.2 0, 497, .inl f46)), (q1, .inr (12, [.ref q43, w7, w8, w9, w10, w11, .int 3, .ref q44, .ref q45, w15, w16, w17, w18, w19, w20, w21, w22, w23, w24, w25, w26, w27, w28, w29, w30, w31, w32, w33, w34, w35, w36, w37, w38, w39, w40, w41, w42]))] H := hP
  have hD : va_D A [(q45, .inl (g.2 0, 8, .inl f55)), (q44, .inl (g.2 0, 8, .inl f55)), (q43, .inl (g.2 0, 497, .inl f46)), (q1, .inr (12, [.ref q43, w7, w8, w9, w10, w11, .int 3, .ref q44, .ref q45, w15, w16, w17, w18, w19, w20, w21, w22, w23, w24, w25, w26, w27, w28, w29, w30, w31, w32, w33, w34, w35, w36, w37, w38, w39, w40, w41, w42]))] := hD
  exact x_zret hx hb hr rfl rfl hlocks hP hD hS hAe hsz (Nat.le_of_ble_eq_true rfl) (Nat.le_of_ble_eq_true rfl) (fun _ => 0) [3] (by decide) rfl dX10_played_63

set_option maxHeartbeats 4000000 in
set_option maxRecDepth 100000 in
theorem c1455_X3_findNote (l : Launch) (g : gG) (q1 q6 : Nat) (x2 : Int32) (w4 : Value) (f7 : Nat → Int32) (hf8 : f7 30 = 0) (h3 : (0 : Int32) ≤ x2) (sz : Nat) : Met l yX3_findNote [Cond.code yX3_findNote cX3_findNote 10 (some .int)] ({ frames := 1, cells := 0, slots := 0, locals := 23 } : Room) (va_Pc [.ref q1, .int 6, .int x2] (PX g sz [(q6, .inl (g.2 0, 40, .inl f7)), (q1, .inr (5, [w4, .ref q6]))])) (QI g [(q6, .inl (g.2 0, 40, .inl f7)), (q1, .inr (5, [w4, .ref q6]))] sz (-1) (fun _ => [(q6, .inl (g.2 0, 40, .inl f7)), (q1, .inr (5, [w4, .ref q6]))])) 0 0 (va_A [(q6, .inl (g.2 0, 40, .inl f7)), (q1, .inr (5, [w4, .ref q6]))] sz) := by
  refine ofN (by decide) (Nat.le_of_ble_eq_true rfl) rfl ?_
  intro p e s m args below meth c A ls hAe hsz hx hb hml hr hlocks hin hown hE hP hD hA hS hl
  have hown : s.vm.findClass RX3 = some m.cls := hown
  refine lv_iload_n hx hb dX3_findNote_0 rfl (lv_at hl 2 rfl) ?_
  refine lv_if_ge (tgt := 6) hx hb dX3_findNote_1 (by decide) (fun _ => ?_) (fun h => absurd h3 h)
  refine lv_iload_n hx hb dX3_findNote_6 rfl (lv_at hl 1 rfl) ?_
  refine lv_istore_n (lv' := [(3, .int 6), (0, .ref q1), (1, .int 6), (2, .int x2)]) hx hb dX3_findNote_7 rfl hl (by decide) rfl (fun ls hl => ?_)
  refine lv_iconst (v := 0) hx hb dX3_findNote_8 (by decide) ?_
  refine lv_istore (lv' := [(4, .int 0), (3, .int 6), (0, .ref q1), (1, .int 6), (2, .int x2)]) hx hb dX3_findNote_9 hl (by decide) rfl (fun ls hl => ?_)
  refine lv_iload_n hx hb dX3_findNote_11 rfl (lv_at hl 4 rfl) ?_
  refine lv_istore (lv' := [(5, .int x2), (4, .int 0), (3, .int 6), (0, .ref q1), (1, .int 6), (2, .int x2)]) hx hb dX3_findNote_12 hl (by decide) rfl (fun ls hl => ?_)
  refine lv_iconst (v := 0) hx hb dX3_findNote_14 (by decide) ?_
  refine lv_istore (lv' := [(6, .int 0), (5, .int x2), (4, .int 0), (3, .int 6), (0, .ref q1), (1, .int 6), (2, .int x2)]) hx hb dX3_findNote_15 hl (by decide) rfl (fun ls hl => ?_)
  refine lv_iconst (v := 0) hx hb dX3_findNote_17 (by decide) ?_
  refine lv_istore (lv' := [(7, .int 0), (6, .int 0), (5, .int x2), (4, .int 0), (3, .int 6), (0, .ref q1), (1, .int 6), (2, .int x2)]) hx hb dX3_findNote_18 hl (by decide) rfl (fun ls hl => ?_)
  refine lv_iload hx hb dX3_findNote_20 (lv_at hl 0 rfl) ?_
  refine lv_bipush (v := 96) hx hb dX3_findNote_22 (by decide) ?_
  refine lv_icmp_ge (tgt := 161) hx hb dX3_findNote_24 (by decide) (fun h => absurd h (by decide)) (fun _ => ?_)
  refine lv_iload hx hb dX3_findNote_27 (lv_at hl 3 rfl) ?_
  refine lv_aload_n hx hb dX3_findNote_29 rfl (lv_at hl 5 rfl) ?_
  refine lv_iload_n hx hb dX3_findNote_30 rfl (lv_at hl 4 rfl) ?_
  refine lv_iconst (v := 0) hx hb dX3_findNote_31 (by decide) ?_
  refine g_i (wr := []) (rV (rest := [.int 0]) hx hb hml hown hE hP hD 1 rfl rfl (c176_X3_figure l g q1 q6 w4 f7 (hf8) s.heap.size) (kV_X3_figure hE (e343 hE) rfl rfl ⟨(Nat.le_of_ble_eq_true rfl), (Nat.le_of_ble_eq_true rfl)⟩) [0, 1] rfl (by decide) rfl hl.1 rfl (lv_room (Nat.le_of_ble_eq_true rfl)) dX3_findNote_32 ⟨(Nat.le_of_ble_eq_true rfl), (Nat.le_of_ble_eq_true rfl)⟩) hP hD hS hA [0, 1] [] rfl rfl (by decide) (by decide) (fun u1 H locs hP hD hS => ?_)
  have hP : va_P g.1 vwCl [(q6, .inl (g.2 0, 40, .inl f7)), (q1, .inr (5, [w4, .ref q6]))] H := hP
  have hD : va_D A [(q6, .inl (g.2 0, 40, .inl f7)), (q1, .inr (5, [w4, .ref q6]))] := hD
  refine lv_icmp_ge (tgt := 161) hx hb dX3_findNote_35 (by decide) (fun _ => ?_) (fun h => absurd (by decide) h)
  refine lv_iconst (v := (-1)) hx hb dX3_findNote_161 (by decide) ?_
  exact x_zret hx hb hr rfl rfl hlocks hP hD hS hAe hsz (Nat.le_of_ble_eq_true rfl) (Nat.le_of_ble_eq_true rfl) (fun _ => 0) [0, 1] (by decide) rfl dX3_findNote_162

set_option maxHeartbeats 4000000 in
set_option maxRecDepth 100000 in
theorem c1456_X9_played (l : Launch) (g : gG) (hlx : l.stackTraces = false) (q1 q17 q21 q24 q32 q36 : Nat) (x2 x3 : Int32) (w7 w8 w9 w10 w11 w12 w13 w14 w15 w16 w20 w26 w27 w28 w29 w30 w31 w34 : Value) (f22 : Nat → Option Nat) (f37 : Nat → Int32) (hf23 : f22 0 = some q24) (hf38 : f37 30 = 0) (h4 : (0 : Int32) ≤ x3) (h5 : x3 ≤ 3) (h33 : (0 : Int32) ≤ x2) (sz : Nat) : vx_Met l yX9_played [Cond.code yX9_played cX9_played 6 (some .int)] ({ frames := 6, cells := 1, slots := 6, locals := 100 } : Room) (va_Pc [.ref q1, .int 6, .int x2, .int x3] (PZ g sz [(q36, .inl (g.2 0, 40, .inl f37)), (q32, .inr (5, [w34, .ref q36])), (q24, .inr (8, [.ref q32, w26, w27, w28, w29, w30, w31])), (q21, .inl (g.2 3, 10, .inr (.inr (.inr (.inr f22))))), (q17, .inr (10, [.ref q21, .int 0, w20])), (q1, .inr (11, [.ref q17, w7, w8, w9, w10, w11, w12, w13, w14, w15, w16]))])) NI (XW g [(q36, .inl (g.2 0, 40, .inl f37)), (q32, .inr (5, [w34, .ref q36])), (q24, .inr (8, [.ref q32, w26, w27, w28, w29, w30, w31])), (q21, .inl (g.2 3, 10, .inr (.inr (.inr (.inr f22))))), (q17, .inr (10, [.ref q21, .int 0, w20])), (q1, .inr (11, [.ref q17, w7, w8, w9, w10, w11, w12, w13, w14, w15, w16]))] sz "java/util/NoSuchElementException" [(q24, .inr (8, [.ref q32, w26, w27, w28, w29, w30, w31])), (q1, .inr (11, [.ref q17, w7, w8, w9, w10, w11, w12, w13, w14, w15, w16])), (q21, .inl (g.2 3, 10, .inr (.inr (.inr (.inr f22))))), (q17, .inr (10, [.ref q21, .int 0, w20])), (q36, .inl (g.2 0, 40, .inl f37)), (q32, .inr (5, [w34, .ref q36]))]) 1 6 (va_A [(q36, .inl (g.2 0, 40, .inl f37)), (q32, .inr (5, [w34, .ref q36])), (q24, .inr (8, [.ref q32, w26, w27, w28, w29, w30, w31])), (q21, .inl (g.2 3, 10, .inr (.inr (.inr (.inr f22))))), (q17, .inr (10, [.ref q21, .int 0, w20])), (q1, .inr (11, [.ref q17, w7, w8, w9, w10, w11, w12, w13, w14, w15, w16]))] sz) := by
  refine ofX (by decide) (Nat.le_of_ble_eq_true rfl) rfl ?_
  intro p e s m args below meth c A ls hAe hsz hx hb hml hr hlocks hin hown hE hP hD hA hS hl hex hz
  have hown : s.vm.findClass RX9 = some m.cls := hown
  refine lv_iload_n hx hb dX9_played_0 rfl (lv_at hl 1 rfl) ?_
  refine g0_v (rS (rest := []) hx hb hml hown hE hP hD (c89_X9_requirePattern l g 6 (by decide) (by decide) s.heap.size) (kS_X9_requirePattern hE (e617 hE) rfl rfl ⟨(Nat.le_of_ble_eq_true rfl), (Nat.le_of_ble_eq_true rfl)⟩) [] rfl (by decide) rfl hl.1 rfl (lv_room (Nat.le_of_ble_eq_true rfl)) dX9_played_1 ⟨(Nat.le_of_ble_eq_true rfl), (Nat.le_of_ble_eq_true rfl)⟩) hP hD hS hA (fun u9 H locs hP hS => ?_)
  refine lv_iload_n hx hb dX9_played_4 rfl (lv_at hl 3 rfl) ?_
  refine lv_iconst (v := 0) hx hb dX9_played_5 (by decide) ?_
  refine lv_iconst (v := 3) hx hb dX9_played_6 (by decide) ?_
  refine g0_v (rS (rest := []) hx hb hml hown hE hP hD (c815_X9_requireRange l g x3 h4 h5 H.size) (kS_X9_requireRange hE (e636 hE) rfl rfl ⟨(Nat.le_of_ble_eq_true rfl), (Nat.le_of_ble_eq_true rfl)⟩) [] rfl (by decide) rfl hl.1 rfl (lv_room (Nat.le_of_ble_eq_true rfl)) dX9_played_7 ⟨(Nat.le_of_ble_eq_true rfl), (Nat.le_of_ble_eq_true rfl)⟩) hP hD hS hA (fun u9 H locs hP hS => ?_)
  refine lv_aload_n hx hb dX9_played_10 rfl (lv_at hl 0 rfl) ?_
  refine gf_RX9_12 hx hb hown hE hP 5 rfl rfl dX9_played_11 ?_
  refine g_r (wr := [(q36, .inl (g.2 0, 40, .inl f37)), (q32, .inr (5, [w34, .ref q36])), (q24, .inr (8, [.ref q32, w26, w27, w28, w29, w30, w31])), (q1, .inr (11, [.ref q17, w7, w8, w9, w10, w11, w12, w13, w14, w15, w16]))]) (rV (rest := []) hx hb hml hown hE hP hD 4 rfl rfl (c71_X8_current l g q17 q21 q24 w20 f22 (hf23) H.size) (kV_X8_current hE (e290 hE) rfl rfl ⟨(Nat.le_of_ble_eq_true rfl), (Nat.le_of_ble_eq_true rfl)⟩) [3, 4] rfl (by decide) rfl hl.1 rfl (lv_room (Nat.le_of_ble_eq_true rfl)) dX9_played_14 ⟨(Nat.le_of_ble_eq_true rfl), (Nat.le_of_ble_eq_true rfl)⟩) hP hD hS hA [3, 4] [0, 1, 2, 5] rfl rfl (by decide) (by decide) (fun u3 H locs hP hD hS => ?_)
  have hP : va_P g.1 vwCl [(q36, .inl (g.2 0, 40, .inl f37)), (q32, .inr (5, [w34, .ref q36])), (q24, .inr (8, [.ref q32, w26, w27, w28, w29, w30, w31])), (q1, .inr (11, [.ref q17, w7, w8, w9, w10, w11, w12, w13, w14, w15, w16])), (q21, .inl (g.2 3, 10, .inr (.inr (.inr (.inr f22))))), (q17, .inr (10, [.ref q21, .int 0, w20]))] H := hP
  have hD : va_D A [(q36, .inl (g.2 0, 40, .inl f37)), (q32, .inr (5, [w34, .ref q36])), (q24, .inr (8, [.ref q32, w26, w27, w28, w29, w30, w31])), (q1, .inr (11, [.ref q17, w7, w8, w9, w10, w11, w12, w13, w14, w15, w16])), (q21, .inl (g.2 3, 10, .inr (.inr (.inr (.inr f22))))), (q17, .inr (10, [.ref q21, .int 0, w20]))] := hD
  refine gf_RX9_108 hx hb hown hE hP 2 rfl rfl dX9_played_17 ?_
  refine lv_astore (lv' := [(4, .ref q32), (0, .ref q1), (1, .int 6), (2, .int x2), (3, .int x3)]) hx hb dX9_played_20 hl (by decide) rfl (fun ls hl => ?_)
  refine lv_aload hx hb dX9_played_22 (lv_at hl 0 rfl) ?_
  refine lv_iload_n hx hb dX9_played_24 rfl (lv_at hl 2 rfl) ?_
  refine lv_iload_n hx hb dX9_played_25 rfl (lv_at hl 3 rfl) ?_
  refine g_i (wr := [(q24, .inr (8, [.ref q32, w26, w27, w28, w29, w30, w31])), (q1, .inr (11, [.ref q17, w7, w8, w9, w10, w11, w12, w13, w14, w15, w16])), (q21, .inl (g.2 3, 10, .inr (.inr (.inr (.inr f22))))), (q17, .inr (10, [.ref q21, .int 0, w20]))]) (rV (rest := []) hx hb hml hown hE hP hD 1 rfl rfl (c1455_X3_findNote l g q32 q36 x2 w34 f37 (hf38) h33 H.size) (kV_X3_findNote hE (e782 hE) rfl rfl ⟨(Nat.le_of_ble_eq_true rfl), (Nat.le_of_ble_eq_true rfl)⟩) [0, 1] rfl (by decide) rfl hl.1 rfl (lv_room (Nat.le_of_ble_eq_true rfl)) dX9_played_26 ⟨(Nat.le_of_ble_eq_true rfl), (Nat.le_of_ble_eq_true rfl)⟩) hP hD hS hA [0, 1] [2, 3, 4, 5] rfl rfl (by decide) (by decide) (fun u4 H locs hP hD hS => ?_)
  have hP : va_P g.1 vwCl [(q24, .inr (8, [.ref q32, w26, w27, w28, w29, w30, w31])), (q1, .inr (11, [.ref q17, w7, w8, w9, w10, w11, w12, w13, w14, w15, w16])), (q21, .inl (g.2 3, 10, .inr (.inr (.inr (.inr f22))))), (q17, .inr (10, [.ref q21, .int 0, w20])), (q36, .inl (g.2 0, 40, .inl f37)), (q32, .inr (5, [w34, .ref q36]))] H := hP
  have hD : va_D A [(q24, .inr (8, [.ref q32, w26, w27, w28, w29, w30, w31])), (q1, .inr (11, [.ref q17, w7, w8, w9, w10, w11, w12, w13, w14, w15, w16])), (q21, .inl (g.2 3, 10, .inr (.inr (.inr (.inr f22))))), (q17, .inr (10, [.ref q21, .int 0, w20])), (q36, .inl (g.2 0, 40, .inl f37)), (q32, .inr (5, [w34, .ref q36]))] := hD
  refine lv_istore (lv' := [(5, .int (-1)), (4, .ref q32), (0, .ref q1), (1, .int 6), (2, .int x2), (3, .int x3)]) hx hb dX9_played_29 hl (by decide) rfl (fun ls hl => ?_)
  refine lv_iload hx hb dX9_played_31 (lv_at hl 0 rfl) ?_
  refine lv_iconst (v := (-1)) hx hb dX9_played_33 (by decide) ?_
  refine lv_icmp_ne (tgt := 47) hx hb dX9_played_34 (by decide) (fun h => absurd h (by decide)) (fun _ => ?_)
  exact x_throwN (text := "no such note") hx hb hlx hown hE (e783 hE) (e23 hE) (by decide +kernel) hz (by rw [hml]; exact hl.1) dX9_played_37 dX9_played_40 dX9_played_41 dX9_played_43 dX9_played_46 hex (Nat.le_of_ble_eq_true rfl) (Nat.le_of_ble_eq_true rfl) (Nat.le_of_ble_eq_true rfl) (Nat.le_of_ble_eq_true rfl) hlocks hP hD hS hAe hsz (Nat.le_of_ble_eq_true rfl) (Nat.le_of_ble_eq_true rfl) [0, 1, 2, 3, 4, 5] (by decide) rfl

set_option maxHeartbeats 4000000 in
set_option maxRecDepth 100000 in
theorem c1457_L_played (l : Launch) (g : gG) (hlx : l.stackTraces = false) (q1 q4 q18 q22 q25 q33 q37 : Nat) (x2 x3 : Int32) (w8 w9 w10 w11 w12 w13 w14 w15 w16 w17 w21 w27 w28 w29 w30 w31 w32 w35 : Value) (f23 : Nat → Option Nat) (f38 : Nat → Int32) (hf24 : f23 0 = some q25) (hf39 : f38 30 = 0) (h5 : (0 : Int32) ≤ x3) (h6 : x3 ≤ 3) (h34 : (0 : Int32) ≤ x2) (sz : Nat) : Met l yL_played [Cond.codeWith yL_played cL_played 6 (some .int) [(0, 12, 15, 13), (0, 12, 19, 15), (0, 12, 23, 39)]] ({ frames := 7, cells := 1, slots := 6, locals := 125 } : Room) (va_Pc [.ref q1, .int 6, .int x2, .int x3, .ref q4] (PZ g sz [(q37, .inl (g.2 0, 40, .inl f38)), (q33, .inr (5, [w35, .ref q37])), (q25, .inr (8, [.ref q33, w27, w28, w29, w30, w31, w32])), (q22, .inl (g.2 3, 10, .inr (.inr (.inr (.inr f23))))), (q18, .inr (10, [.ref q22, .int 0, w21])), (q1, .inr (11, [.ref q18, w8, w9, w10, w11, w12, w13, w14, w15, w16, w17]))])) (QI g [(q37, .inl (g.2 0, 40, .inl f38)), (q33, .inr (5, [w35, .ref q37])), (q25, .inr (8, [.ref q33, w27, w28, w29, w30, w31, w32])), (q22, .inl (g.2 3, 10, .inr (.inr (.inr (.inr f23))))), (q18, .inr (10, [.ref q22, .int 0, w21])), (q1, .inr (11, [.ref q18, w8, w9, w10, w11, w12, w13, w14, w15, w16, w17]))] sz 3 (fun _ => [])) 1 6 (va_A [(q37, .inl (g.2 0, 40, .inl f38)), (q33, .inr (5, [w35, .ref q37])), (q25, .inr (8, [.ref q33, w27, w28, w29, w30, w31, w32])), (q22, .inl (g.2 3, 10, .inr (.inr (.inr (.inr f23))))), (q18, .inr (10, [.ref q22, .int 0, w21])), (q1, .inr (11, [.ref q18, w8, w9, w10, w11, w12, w13, w14, w15, w16, w17]))] sz) := by
  refine ofH (by decide) (Nat.le_of_ble_eq_true rfl) rfl ?_
  intro p e s m args below meth c A ls hAe hsz hx hb hml hr hlocks hin hown hE hP hD hA hS hl htb hz
  have hown : s.vm.findClass RL = some m.cls := hown
  refine lv_aload hx hb dL_played_0 (lv_at hl 4 rfl) ?_
  refine lv_iconst (v := 0) hx hb dL_played_2 (by decide) ?_
  refine lv_aload_n hx hb dL_played_3 rfl (lv_at hl 0 rfl) ?_
  refine lv_iload_n hx hb dL_played_4 rfl (lv_at hl 1 rfl) ?_
  refine lv_iload_n hx hb dL_played_5 rfl (lv_at hl 2 rfl) ?_
  refine lv_iload_n hx hb dL_played_6 rfl (lv_at hl 3 rfl) ?_
  refine gx_i (wr := []) (rVx (rest := [.int 0, .ref q4]) hx hb hml hown hE hP hD hS hA hz 5 rfl rfl (c1456_X9_played l g hlx q1 q18 q22 q25 q33 q37 x2 x3 w8 w9 w10 w11 w12 w13 w14 w15 w16 w17 w21 w27 w28 w29 w30 w31 w32 w35 f23 f38 (hf24) (hf39) h5 h6 h34 s.heap.size) (kV_X9_played hE (e778 hE) rfl rfl ⟨(Nat.le_of_ble_eq_true rfl), (Nat.le_of_ble_eq_true rfl)⟩) [0, 1, 2, 3, 4, 5] rfl (by decide) rfl hl.1 rfl (lv_room (Nat.le_of_ble_eq_true rfl)) dL_played_7 ⟨(Nat.le_of_ble_eq_true rfl), (Nat.le_of_ble_eq_true rfl)⟩) hP hD hS hA [0, 1, 2, 3, 4, 5] [] rfl rfl (by decide) (by decide) (fun ce9 q9 H locs hP hD hS hq1 hq2 hq3 => ?_)
  have hP : va_P g.1 vwCl [(q25, .inr (8, [.ref q33, w27, w28, w29, w30, w31, w32])), (q1, .inr (11, [.ref q18, w8, w9, w10, w11, w12, w13, w14, w15, w16, w17])), (q22, .inl (g.2 3, 10, .inr (.inr (.inr (.inr f23))))), (q18, .inr (10, [.ref q22, .int 0, w21])), (q37, .inl (g.2 0, 40, .inl f38)), (q33, .inr (5, [w35, .ref q37]))] H := hP
  have hD : va_D A [(q25, .inr (8, [.ref q33, w27, w28, w29, w30, w31, w32])), (q1, .inr (11, [.ref q18, w8, w9, w10, w11, w12, w13, w14, w15, w16, w17])), (q22, .inl (g.2 3, 10, .inr (.inr (.inr (.inr f23))))), (q18, .inr (10, [.ref q22, .int 0, w21])), (q37, .inl (g.2 0, 40, .inl f38)), (q33, .inr (5, [w35, .ref q37]))] := hD
  refine x_catch (name := "java/util/NoSuchElementException") (hh := [(0, 12, 15, 13), (0, 12, 19, 15), (0, 12, 23, 39)]) (tgt := 23) hown htb [⟨0, 12, 15, 13⟩, ⟨0, 12, 19, 15⟩] ⟨0, 12, 23, 39⟩ [] rfl (fun z hz => by
    rcases List.mem_cons.mp hz with rfl | hz
    · exact Or.inr ⟨by decide, "java/lang/IndexOutOfBoundsException", e532 hE, hE.2.2.2.2.2 ("java/util/NoSuchElementException", "java/lang/IndexOutOfBoundsException") (by decide +kernel)⟩
    rcases List.mem_cons.mp hz with rfl | hz
    · exact Or.inr ⟨by decide, "java/lang/IllegalArgumentException", e611 hE, hE.2.2.2.2.2 ("java/util/NoSuchElementException", "java/lang/IllegalArgumentException") (by decide +kernel)⟩
    exact nomatch hz) rfl (by decide) (e777 hE) (e785 hE) hq1 hq2 hq3 rfl ?_
  refine lv_astore (lv' := [(5, .ref q9), (0, .ref q1), (1, .int 6), (2, .int x2), (3, .int x3), (4, .ref q4)]) hx hb dL_played_23 hl (by decide) rfl (fun ls hl => ?_)
  refine lv_iconst (v := 3) hx hb dL_played_25 (by decide) ?_
  exact x_zret hx hb hr rfl rfl hlocks hP hD hS hAe hsz (Nat.le_of_ble_eq_true rfl) (Nat.le_of_ble_eq_true rfl) (fun _ => 0) [] (by decide) rfl dL_played_26

set_option maxHeartbeats 4000000 in
set_option maxRecDepth 100000 in
theorem c1458_X10_played (l : Launch) (g : gG) (q1 q43 q44 q45 : Nat) (x2 x3 : Int32) (w7 w8 w9 w10 w11 w12 w15 w16 w17 w18 w19 w20 w21 w22 w23 w24 w25 w26 w27 w28 w29 w30 w31 w32 w33 w34 w35 w36 w37 w38 w39 w40 w41 w42 : Value) (f46 : Nat → Int32) (f55 : Nat → Int32) (hf47 : f46 0 = 0) (hf48 : f46 49 = 0) (hf49 : f46 98 = 0) (hf50 : f46 147 = 0) (hf51 : f46 196 = 0) (hf52 : f46 245 = 0) (hf53 : f46 294 = 0) (hf54 : f46 343 = 0) (hf56 : f55 0 = 0) (hf57 : f55 1 = 0) (hf58 : f55 2 = 0) (hf59 : f55 3 = 0) (hf60 : f55 4 = 0) (hf61 : f55 5 = 0) (hf62 : f55 6 = 0) (hf63 : f55 7 = 0) (h4 : (0 : Int32) ≤ x3) (h5 : x3 ≤ 3) (h64 : (0 : Int32) ≤ x2) (sz : Nat) : Met l yX10_played [Cond.code yX10_played cX10_played 4 (some .int)] ({ frames := 3, cells := 0, slots := 0, locals := 66 } : Room) (va_Pc [.ref q1, .int 6, .int x2, .int x3] (PX g sz [(q45, .inl (g.2 0, 8, .inl f55)), (q44, .inl (g.2 0, 8, .inl f55)), (q43, .inl (g.2 0, 497, .inl f46)), (q1, .inr (12, [.ref q43, w7, w8, w9, w10, w11, w12, .ref q44, .ref q45, w15, w16, w17, w18, w19, w20, w21, w22, w23, w24, w25, w26, w27, w28, w29, w30, w31, w32, w33, w34, w35, w36, w37, w38, w39, w40, w41, w42]))])) (QI g [(q45, .inl (g.2 0, 8, .inl f55)), (q44, .inl (g.2 0, 8, .inl f55)), (q43, .inl (g.2 0, 497, .inl f46)), (q1, .inr (12, [.ref q43, w7, w8, w9, w10, w11, w12, .ref q44, .ref q45, w15, w16, w17, w18, w19, w20, w21, w22, w23, w24, w25, w26, w27, w28, w29, w30, w31, w32, w33, w34, w35, w36, w37, w38, w39, w40, w41, w42]))] sz 0 (fun _ => [(q1, .inr (12, [.ref q43, w7, w8, w9, w10, w11, .int 3, .ref q44, .ref q45, w15, w16, w17, w18, w19, w20, w21, w22, w23, w24, w25, w26, w27, w28, w29, w30, w31, w32, w33, w34, w35, w36, w37, w38, w39, w40, w41, w42]))])) 0 0 (va_A [(q45, .inl (g.2 0, 8, .inl f55)), (q44, .inl (g.2 0, 8, .inl f55)), (q43, .inl (g.2 0, 497, .inl f46)), (q1, .inr (12, [.ref q43, w7, w8, w9, w10, w11, w12, .ref q44, .ref q45, w15, w16, w17, w18, w19, w20, w21, w22, w23, w24, w25, w26, w27, w28, w29, w30, w31, w32, w33, w34, w35, w36, w37, w38, w39, w40, w41, w42]))] sz) := by
  refine ofN (by decide) (Nat.le_of_ble_eq_true rfl) rfl ?_
  intro p e s m args below meth c A ls hAe hsz hx hb hml hr hlocks hin hown hE hP hD hA hS hl
  have hown : s.vm.findClass RX10 = some m.cls := hown
  refine lv_aload_n hx hb dX10_played_0 rfl (lv_at hl 0 rfl) ?_
  refine lv_iload_n hx hb dX10_played_1 rfl (lv_at hl 1 rfl) ?_
  refine g0_i (rS (rest := [.ref q1]) hx hb hml hown hE hP hD (c94_X10_isPattern l g 6 (by decide) (by decide) s.heap.size) (kS_X10_isPattern hE (e1428 hE) rfl rfl ⟨(Nat.le_of_ble_eq_true rfl), (Nat.le_of_ble_eq_true rfl)⟩) [] rfl (by decide) rfl hl.1 rfl (lv_room (Nat.le_of_ble_eq_true rfl)) dX10_played_2 ⟨(Nat.le_of_ble_eq_true rfl), (Nat.le_of_ble_eq_true rfl)⟩) hP hD hS hA (fun u9 H locs hP hS => ?_)
  refine lv_if_ne (tgt := 12) hx hb dX10_played_5 (by decide) (fun _ => ?_) (fun h => absurd h (by decide))
  refine lv_iload_n hx hb dX10_played_12 rfl (lv_at hl 3 rfl) ?_
  refine lv_iconst (v := 0) hx hb dX10_played_13 (by decide) ?_
  refine lv_iconst (v := 3) hx hb dX10_played_14 (by decide) ?_
  refine g0_i (rS (rest := [.ref q1]) hx hb hml hown hE hP hD (c818_X10_in l g x3 h4 h5 H.size) (kS_X10_in hE (e1431 hE) rfl rfl ⟨(Nat.le_of_ble_eq_true rfl), (Nat.le_of_ble_eq_true rfl)⟩) [] rfl (by decide) rfl hl.1 rfl (lv_room (Nat.le_of_ble_eq_true rfl)) dX10_played_15 ⟨(Nat.le_of_ble_eq_true rfl), (Nat.le_of_ble_eq_true rfl)⟩) hP hD hS hA (fun u9 H locs hP hS => ?_)
  refine lv_if_ne (tgt := 25) hx hb dX10_played_18 (by decide) (fun _ => ?_) (fun h => absurd h (by decide))
  refine lv_iconst (v := 0) hx hb dX10_played_25 (by decide) ?_
  refine pf_RX10_86 (ws' := [(q45, .inl (g.2 0, 8, .inl f55)), (q44, .inl (g.2 0, 8, .inl f55)), (q43, .inl (g.2 0, 497, .inl f46)), (q1, .inr (12, [.ref q43, w7, w8, w9, w10, w11, .int 0, .ref q44, .ref q45, w15, w16, w17, w18, w19, w20, w21, w22, w23, w24, w25, w26, w27, w28, w29, w30, w31, w32, w33, w34, w35, w36, w37, w38, w39, w40, w41, w42]))]) hx hb hown hE hP hD hS 3 rfl rfl rfl (Nat.le_of_ble_eq_true rfl) dX10_played_26 rfl (fun H locs hP hD hS => ?_)
  refine lv_aload_n hx hb dX10_played_29 rfl (lv_at hl 0 rfl) ?_
  refine gf_RX10_86 hx hb hown hE hP 3 rfl rfl dX10_played_30 ?_
  refine lv_if_le (tgt := 38) hx hb dX10_played_33 (by decide) (fun _ => ?_) (fun h => absurd (by decide) h)
  refine lv_aload_n hx hb dX10_played_38 rfl (lv_at hl 0 rfl) ?_
  refine g_v (wr := []) (rV (rest := []) hx hb hml hown hE hP hD 3 rfl rfl (c1241_X10_layLengths l g q1 q43 q44 q45 w7 w8 w9 w10 w11 (.int 0) w15 w16 w17 w18 w19 w20 w21 w22 w23 w24 w25 w26 w27 w28 w29 w30 w31 w32 w33 w34 w35 w36 w37 w38 w39 w40 w41 w42 f46 f55 (hf47) (hf56) (hf48) (hf57) (hf49) (hf58) (hf50) (hf59) (hf51) (hf60) (hf52) (hf61) (hf53) (hf62) (hf54) (hf63) H.size) (kV_X10_layLengths hE (e1452 hE) rfl rfl ⟨(Nat.le_of_ble_eq_true rfl), (Nat.le_of_ble_eq_true rfl)⟩) [0, 1, 2, 3] rfl (by decide) rfl hl.1 rfl (lv_room (Nat.le_of_ble_eq_true rfl)) dX10_played_39 ⟨(Nat.le_of_ble_eq_true rfl), (Nat.le_of_ble_eq_true rfl)⟩) hP hD hS hA [0, 1, 2, 3] [] rfl rfl (by decide) (by decide) (fun u3 H locs hP hD hS => ?_)
  have hP : va_P g.1 vwCl [(q45, .inl (g.2 0, 8, .inl f55)), (q44, .inl (g.2 0, 8, .inl f55)), (q43, .inl (g.2 0, 497, .inl f46)), (q1, .inr (12, [.ref q43, w7, w8, w9, w10, w11, .int 0, .ref q44, .ref q45, w15, w16, w17, w18, w19, w20, w21, w22, w23, w24, w25, w26, w27, w28, w29, w30, w31, w32, w33, w34, w35, w36, w37, w38, w39, w40, w41, w42]))] H := hP
  have hD : va_D A [(q45, .inl (g.2 0, 8, .inl f55)), (q44, .inl (g.2 0, 8, .inl f55)), (q43, .inl (g.2 0, 497, .inl f46)), (q1, .inr (12, [.ref q43, w7, w8, w9, w10, w11, .int 0, .ref q44, .ref q45, w15, w16, w17, w18, w19, w20, w21, w22, w23, w24, w25, w26, w27, w28, w29, w30, w31, w32, w33, w34, w35, w36, w37, w38, w39, w40, w41, w42]))] := hD
  refine lv_iload_n hx hb dX10_played_42 rfl (lv_at hl 2 rfl) ?_
  refine lv_iconst (v := 0) hx hb dX10_played_43 (by decide) ?_
  refine lv_aload_n hx hb dX10_played_44 rfl (lv_at hl 0 rfl) ?_
  refine gf_RX10_25 hx hb hown hE hP 3 rfl rfl dX10_played_45 ?_
  refine lv_iload_n hx hb dX10_played_48 rfl (lv_at hl 1 rfl) ?_
  refine x_iald (v := 0) hx hb hE hP 0 rfl 6 (x_in (by decide)) (by decide) hf62 dX10_played_49 ?_
  refine lv_iconst (v := 1) hx hb dX10_played_50 (by decide) ?_
  refine x_isub (v := (-1)) hx hb dX10_played_51 (by decide) ?_
  refine g0_i (rS (rest := []) hx hb hml hown hE hP hD (c649_X10_in l g x2 h64 H.size) (kS_X10_in hE (e1431 hE) rfl rfl ⟨(Nat.le_of_ble_eq_true rfl), (Nat.le_of_ble_eq_true rfl)⟩) [] rfl (by decide) rfl hl.1 rfl (lv_room (Nat.le_of_ble_eq_true rfl)) dX10_played_52 ⟨(Nat.le_of_ble_eq_true rfl), (Nat.le_of_ble_eq_true rfl)⟩) hP hD hS hA (fun u9 H locs hP hS => ?_)
  refine lv_if_ne (tgt := 64) hx hb dX10_played_55 (by decide) (fun h => absurd h (by decide)) (fun _ => ?_)
  refine lv_aload_n hx hb dX10_played_58 rfl (lv_at hl 0 rfl) ?_
  refine lv_iconst (v := 3) hx hb dX10_played_59 (by decide) ?_
  refine g_i (wr := [(q45, .inl (g.2 0, 8, .inl f55)), (q44, .inl (g.2 0, 8, .inl f55)), (q43, .inl (g.2 0, 497, .inl f46))]) (rV (rest := []) hx hb hml hown hE hP hD 3 rfl rfl (c1433_X10_refuse l g q1 (.ref q43) w7 w8 w9 w10 w11 (.int 0) (.ref q44) (.ref q45) w15 w16 w17 w18 w19 w20 w21 w22 w23 w24 w25 w26 w27 w28 w29 w30 w31 w32 w33 w34 w35 w36 w37 w38 w39 w40 w41 w42 H.size) (kV_X10_refuse hE (e1474 hE) rfl rfl ⟨(Nat.le_of_ble_eq_true rfl), (Nat.le_of_ble_eq_true rfl)⟩) [3] rfl (by decide) rfl hl.1 rfl (lv_room (Nat.le_of_ble_eq_true rfl)) dX10_played_60 ⟨(Nat.le_of_ble_eq_true rfl), (Nat.le_of_ble_eq_true rfl)⟩) hP hD hS hA [3] [0, 1, 2] rfl rfl (by decide) (by decide) (fun u5 H locs hP hD hS => ?_)
  have hP : va_P g.1 vwCl [(q45, .inl (g.2 0, 8, .inl f55)), (q44, .inl (g.2 0, 8, .inl f55)), (q43, .inl (g.2 0, 497, .inl f46)), (q1, .inr (12, [.ref q43, w7, w8, w9, w10, w11, .int 3, .ref q44, .ref q45, w15, w16, w17, w18, w19, w20, w21, w22, w23, w24, w25, w26, w27, w28, w29, w30, w31, w32, w33, w34, w35, w36, w37, w38, w39, w40, w41, w42]))] H := hP
  have hD : va_D A [(q45, .inl (g.2 0, 8, .inl f55)), (q44, .inl (g.2 0, 8, .inl f55)), (q43, .inl (g.2 0, 497, .inl f46)), (q1, .inr (12, [.ref q43, w7, w8, w9, w10, w11, .int 3, .ref q44, .ref q45, w15, w16, w17, w18, w19, w20, w21, w22, w23, w24, w25, w26, w27, w28, w29, w30, w31, w32, w33, w34, w35, w36, w37, w38, w39, w40, w41, w42]))] := hD
  exact x_zret hx hb hr rfl rfl hlocks hP hD hS hAe hsz (Nat.le_of_ble_eq_true rfl) (Nat.le_of_ble_eq_true rfl) (fun _ => 0) [3] (by decide) rfl dX10_played_63

set_option maxHeartbeats 4000000 in
set_option maxRecDepth 100000 in
theorem c1459_X3_findNote (l : Launch) (g : gG) (q1 q6 : Nat) (x2 : Int32) (w4 : Value) (f7 : Nat → Int32) (hf8 : f7 35 = 0) (h3 : (0 : Int32) ≤ x2) (sz : Nat) : Met l yX3_findNote [Cond.code yX3_findNote cX3_findNote 10 (some .int)] ({ frames := 1, cells := 0, slots := 0, locals := 23 } : Room) (va_Pc [.ref q1, .int 7, .int x2] (PX g sz [(q6, .inl (g.2 0, 40, .inl f7)), (q1, .inr (5, [w4, .ref q6]))])) (QI g [(q6, .inl (g.2 0, 40, .inl f7)), (q1, .inr (5, [w4, .ref q6]))] sz (-1) (fun _ => [(q6, .inl (g.2 0, 40, .inl f7)), (q1, .inr (5, [w4, .ref q6]))])) 0 0 (va_A [(q6, .inl (g.2 0, 40, .inl f7)), (q1, .inr (5, [w4, .ref q6]))] sz) := by
  refine ofN (by decide) (Nat.le_of_ble_eq_true rfl) rfl ?_
  intro p e s m args below meth c A ls hAe hsz hx hb hml hr hlocks hin hown hE hP hD hA hS hl
  have hown : s.vm.findClass RX3 = some m.cls := hown
  refine lv_iload_n hx hb dX3_findNote_0 rfl (lv_at hl 2 rfl) ?_
  refine lv_if_ge (tgt := 6) hx hb dX3_findNote_1 (by decide) (fun _ => ?_) (fun h => absurd h3 h)
  refine lv_iload_n hx hb dX3_findNote_6 rfl (lv_at hl 1 rfl) ?_
  refine lv_istore_n (lv' := [(3, .int 7), (0, .ref q1), (1, .int 7), (2, .int x2)]) hx hb dX3_findNote_7 rfl hl (by decide) rfl (fun ls hl => ?_)
  refine lv_iconst (v := 0) hx hb dX3_findNote_8 (by decide) ?_
  refine lv_istore (lv' := [(4, .int 0), (3, .int 7), (0, .ref q1), (1, .int 7), (2, .int x2)]) hx hb dX3_findNote_9 hl (by decide) rfl (fun ls hl => ?_)
  refine lv_iload_n hx hb dX3_findNote_11 rfl (lv_at hl 4 rfl) ?_
  refine lv_istore (lv' := [(5, .int x2), (4, .int 0), (3, .int 7), (0, .ref q1), (1, .int 7), (2, .int x2)]) hx hb dX3_findNote_12 hl (by decide) rfl (fun ls hl => ?_)
  refine lv_iconst (v := 0) hx hb dX3_findNote_14 (by decide) ?_
  refine lv_istore (lv' := [(6, .int 0), (5, .int x2), (4, .int 0), (3, .int 7), (0, .ref q1), (1, .int 7), (2, .int x2)]) hx hb dX3_findNote_15 hl (by decide) rfl (fun ls hl => ?_)
  refine lv_iconst (v := 0) hx hb dX3_findNote_17 (by decide) ?_
  refine lv_istore (lv' := [(7, .int 0), (6, .int 0), (5, .int x2), (4, .int 0), (3, .int 7), (0, .ref q1), (1, .int 7), (2, .int x2)]) hx hb dX3_findNote_18 hl (by decide) rfl (fun ls hl => ?_)
  refine lv_iload hx hb dX3_findNote_20 (lv_at hl 0 rfl) ?_
  refine lv_bipush (v := 96) hx hb dX3_findNote_22 (by decide) ?_
  refine lv_icmp_ge (tgt := 161) hx hb dX3_findNote_24 (by decide) (fun h => absurd h (by decide)) (fun _ => ?_)
  refine lv_iload hx hb dX3_findNote_27 (lv_at hl 3 rfl) ?_
  refine lv_aload_n hx hb dX3_findNote_29 rfl (lv_at hl 5 rfl) ?_
  refine lv_iload_n hx hb dX3_findNote_30 rfl (lv_at hl 4 rfl) ?_
  refine lv_iconst (v := 0) hx hb dX3_findNote_31 (by decide) ?_
  refine g_i (wr := []) (rV (rest := [.int 0]) hx hb hml hown hE hP hD 1 rfl rfl (c182_X3_figure l g q1 q6 w4 f7 (hf8) s.heap.size) (kV_X3_figure hE (e343 hE) rfl rfl ⟨(Nat.le_of_ble_eq_true rfl), (Nat.le_of_ble_eq_true rfl)⟩) [0, 1] rfl (by decide) rfl hl.1 rfl (lv_room (Nat.le_of_ble_eq_true rfl)) dX3_findNote_32 ⟨(Nat.le_of_ble_eq_true rfl), (Nat.le_of_ble_eq_true rfl)⟩) hP hD hS hA [0, 1] [] rfl rfl (by decide) (by decide) (fun u1 H locs hP hD hS => ?_)
  have hP : va_P g.1 vwCl [(q6, .inl (g.2 0, 40, .inl f7)), (q1, .inr (5, [w4, .ref q6]))] H := hP
  have hD : va_D A [(q6, .inl (g.2 0, 40, .inl f7)), (q1, .inr (5, [w4, .ref q6]))] := hD
  refine lv_icmp_ge (tgt := 161) hx hb dX3_findNote_35 (by decide) (fun _ => ?_) (fun h => absurd (by decide) h)
  refine lv_iconst (v := (-1)) hx hb dX3_findNote_161 (by decide) ?_
  exact x_zret hx hb hr rfl rfl hlocks hP hD hS hAe hsz (Nat.le_of_ble_eq_true rfl) (Nat.le_of_ble_eq_true rfl) (fun _ => 0) [0, 1] (by decide) rfl dX3_findNote_162

set_option maxHeartbeats 4000000 in
set_option maxRecDepth 100000 in
theorem c1460_X9_played (l : Launch) (g : gG) (hlx : l.stackTraces = false) (q1 q17 q21 q24 q32 q36 : Nat) (x2 x3 : Int32) (w7 w8 w9 w10 w11 w12 w13 w14 w15 w16 w20 w26 w27 w28 w29 w30 w31 w34 : Value) (f22 : Nat → Option Nat) (f37 : Nat → Int32) (hf23 : f22 0 = some q24) (hf38 : f37 35 = 0) (h4 : (0 : Int32) ≤ x3) (h5 : x3 ≤ 3) (h33 : (0 : Int32) ≤ x2) (sz : Nat) : vx_Met l yX9_played [Cond.code yX9_played cX9_played 6 (some .int)] ({ frames := 6, cells := 1, slots := 6, locals := 100 } : Room) (va_Pc [.ref q1, .int 7, .int x2, .int x3] (PZ g sz [(q36, .inl (g.2 0, 40, .inl f37)), (q32, .inr (5, [w34, .ref q36])), (q24, .inr (8, [.ref q32, w26, w27, w28, w29, w30, w31])), (q21, .inl (g.2 3, 10, .inr (.inr (.inr (.inr f22))))), (q17, .inr (10, [.ref q21, .int 0, w20])), (q1, .inr (11, [.ref q17, w7, w8, w9, w10, w11, w12, w13, w14, w15, w16]))])) NI (XW g [(q36, .inl (g.2 0, 40, .inl f37)), (q32, .inr (5, [w34, .ref q36])), (q24, .inr (8, [.ref q32, w26, w27, w28, w29, w30, w31])), (q21, .inl (g.2 3, 10, .inr (.inr (.inr (.inr f22))))), (q17, .inr (10, [.ref q21, .int 0, w20])), (q1, .inr (11, [.ref q17, w7, w8, w9, w10, w11, w12, w13, w14, w15, w16]))] sz "java/util/NoSuchElementException" [(q24, .inr (8, [.ref q32, w26, w27, w28, w29, w30, w31])), (q1, .inr (11, [.ref q17, w7, w8, w9, w10, w11, w12, w13, w14, w15, w16])), (q21, .inl (g.2 3, 10, .inr (.inr (.inr (.inr f22))))), (q17, .inr (10, [.ref q21, .int 0, w20])), (q36, .inl (g.2 0, 40, .inl f37)), (q32, .inr (5, [w34, .ref q36]))]) 1 6 (va_A [(q36, .inl (g.2 0, 40, .inl f37)), (q32, .inr (5, [w34, .ref q36])), (q24, .inr (8, [.ref q32, w26, w27, w28, w29, w30, w31])), (q21, .inl (g.2 3, 10, .inr (.inr (.inr (.inr f22))))), (q17, .inr (10, [.ref q21, .int 0, w20])), (q1, .inr (11, [.ref q17, w7, w8, w9, w10, w11, w12, w13, w14, w15, w16]))] sz) := by
  refine ofX (by decide) (Nat.le_of_ble_eq_true rfl) rfl ?_
  intro p e s m args below meth c A ls hAe hsz hx hb hml hr hlocks hin hown hE hP hD hA hS hl hex hz
  have hown : s.vm.findClass RX9 = some m.cls := hown
  refine lv_iload_n hx hb dX9_played_0 rfl (lv_at hl 1 rfl) ?_
  refine g0_v (rS (rest := []) hx hb hml hown hE hP hD (c89_X9_requirePattern l g 7 (by decide) (by decide) s.heap.size) (kS_X9_requirePattern hE (e617 hE) rfl rfl ⟨(Nat.le_of_ble_eq_true rfl), (Nat.le_of_ble_eq_true rfl)⟩) [] rfl (by decide) rfl hl.1 rfl (lv_room (Nat.le_of_ble_eq_true rfl)) dX9_played_1 ⟨(Nat.le_of_ble_eq_true rfl), (Nat.le_of_ble_eq_true rfl)⟩) hP hD hS hA (fun u9 H locs hP hS => ?_)
  refine lv_iload_n hx hb dX9_played_4 rfl (lv_at hl 3 rfl) ?_
  refine lv_iconst (v := 0) hx hb dX9_played_5 (by decide) ?_
  refine lv_iconst (v := 3) hx hb dX9_played_6 (by decide) ?_
  refine g0_v (rS (rest := []) hx hb hml hown hE hP hD (c815_X9_requireRange l g x3 h4 h5 H.size) (kS_X9_requireRange hE (e636 hE) rfl rfl ⟨(Nat.le_of_ble_eq_true rfl), (Nat.le_of_ble_eq_true rfl)⟩) [] rfl (by decide) rfl hl.1 rfl (lv_room (Nat.le_of_ble_eq_true rfl)) dX9_played_7 ⟨(Nat.le_of_ble_eq_true rfl), (Nat.le_of_ble_eq_true rfl)⟩) hP hD hS hA (fun u9 H locs hP hS => ?_)
  refine lv_aload_n hx hb dX9_played_10 rfl (lv_at hl 0 rfl) ?_
  refine gf_RX9_12 hx hb hown hE hP 5 rfl rfl dX9_played_11 ?_
  refine g_r (wr := [(q36, .inl (g.2 0, 40, .inl f37)), (q32, .inr (5, [w34, .ref q36])), (q24, .inr (8, [.ref q32, w26, w27, w28, w29, w30, w31])), (q1, .inr (11, [.ref q17, w7, w8, w9, w10, w11, w12, w13, w14, w15, w16]))]) (rV (rest := []) hx hb hml hown hE hP hD 4 rfl rfl (c71_X8_current l g q17 q21 q24 w20 f22 (hf23) H.size) (kV_X8_current hE (e290 hE) rfl rfl ⟨(Nat.le_of_ble_eq_true rfl), (Nat.le_of_ble_eq_true rfl)⟩) [3, 4] rfl (by decide) rfl hl.1 rfl (lv_room (Nat.le_of_ble_eq_true rfl)) dX9_played_14 ⟨(Nat.le_of_ble_eq_true rfl), (Nat.le_of_ble_eq_true rfl)⟩) hP hD hS hA [3, 4] [0, 1, 2, 5] rfl rfl (by decide) (by decide) (fun u3 H locs hP hD hS => ?_)
  have hP : va_P g.1 vwCl [(q36, .inl (g.2 0, 40, .inl f37)), (q32, .inr (5, [w34, .ref q36])), (q24, .inr (8, [.ref q32, w26, w27, w28, w29, w30, w31])), (q1, .inr (11, [.ref q17, w7, w8, w9, w10, w11, w12, w13, w14, w15, w16])), (q21, .inl (g.2 3, 10, .inr (.inr (.inr (.inr f22))))), (q17, .inr (10, [.ref q21, .int 0, w20]))] H := hP
  have hD : va_D A [(q36, .inl (g.2 0, 40, .inl f37)), (q32, .inr (5, [w34, .ref q36])), (q24, .inr (8, [.ref q32, w26, w27, w28, w29, w30, w31])), (q1, .inr (11, [.ref q17, w7, w8, w9, w10, w11, w12, w13, w14, w15, w16])), (q21, .inl (g.2 3, 10, .inr (.inr (.inr (.inr f22))))), (q17, .inr (10, [.ref q21, .int 0, w20]))] := hD
  refine gf_RX9_108 hx hb hown hE hP 2 rfl rfl dX9_played_17 ?_
  refine lv_astore (lv' := [(4, .ref q32), (0, .ref q1), (1, .int 7), (2, .int x2), (3, .int x3)]) hx hb dX9_played_20 hl (by decide) rfl (fun ls hl => ?_)
  refine lv_aload hx hb dX9_played_22 (lv_at hl 0 rfl) ?_
  refine lv_iload_n hx hb dX9_played_24 rfl (lv_at hl 2 rfl) ?_
  refine lv_iload_n hx hb dX9_played_25 rfl (lv_at hl 3 rfl) ?_
  refine g_i (wr := [(q24, .inr (8, [.ref q32, w26, w27, w28, w29, w30, w31])), (q1, .inr (11, [.ref q17, w7, w8, w9, w10, w11, w12, w13, w14, w15, w16])), (q21, .inl (g.2 3, 10, .inr (.inr (.inr (.inr f22))))), (q17, .inr (10, [.ref q21, .int 0, w20]))]) (rV (rest := []) hx hb hml hown hE hP hD 1 rfl rfl (c1459_X3_findNote l g q32 q36 x2 w34 f37 (hf38) h33 H.size) (kV_X3_findNote hE (e782 hE) rfl rfl ⟨(Nat.le_of_ble_eq_true rfl), (Nat.le_of_ble_eq_true rfl)⟩) [0, 1] rfl (by decide) rfl hl.1 rfl (lv_room (Nat.le_of_ble_eq_true rfl)) dX9_played_26 ⟨(Nat.le_of_ble_eq_true rfl), (Nat.le_of_ble_eq_true rfl)⟩) hP hD hS hA [0, 1] [2, 3, 4, 5] rfl rfl (by decide) (by decide) (fun u4 H locs hP hD hS => ?_)
  have hP : va_P g.1 vwCl [(q24, .inr (8, [.ref q32, w26, w27, w28, w29, w30, w31])), (q1, .inr (11, [.ref q17, w7, w8, w9, w10, w11, w12, w13, w14, w15, w16])), (q21, .inl (g.2 3, 10, .inr (.inr (.inr (.inr f22))))), (q17, .inr (10, [.ref q21, .int 0, w20])), (q36, .inl (g.2 0, 40, .inl f37)), (q32, .inr (5, [w34, .ref q36]))] H := hP
  have hD : va_D A [(q24, .inr (8, [.ref q32, w26, w27, w28, w29, w30, w31])), (q1, .inr (11, [.ref q17, w7, w8, w9, w10, w11, w12, w13, w14, w15, w16])), (q21, .inl (g.2 3, 10, .inr (.inr (.inr (.inr f22))))), (q17, .inr (10, [.ref q21, .int 0, w20])), (q36, .inl (g.2 0, 40, .inl f37)), (q32, .inr (5, [w34, .ref q36]))] := hD
  refine lv_istore (lv' := [(5, .int (-1)), (4, .ref q32), (0, .ref q1), (1, .int 7), (2, .int x2), (3, .int x3)]) hx hb dX9_played_29 hl (by decide) rfl (fun ls hl => ?_)
  refine lv_iload hx hb dX9_played_31 (lv_at hl 0 rfl) ?_
  refine lv_iconst (v := (-1)) hx hb dX9_played_33 (by decide) ?_
  refine lv_icmp_ne (tgt := 47) hx hb dX9_played_34 (by decide) (fun h => absurd h (by decide)) (fun _ => ?_)
  exact x_throwN (text := "no such note") hx hb hlx hown hE (e783 hE) (e23 hE) (by decide +kernel) hz (by rw [hml]; exact hl.1) dX9_played_37 dX9_played_40 dX9_played_41 dX9_played_43 dX9_played_46 hex (Nat.le_of_ble_eq_true rfl) (Nat.le_of_ble_eq_true rfl) (Nat.le_of_ble_eq_true rfl) (Nat.le_of_ble_eq_true rfl) hlocks hP hD hS hAe hsz (Nat.le_of_ble_eq_true rfl) (Nat.le_of_ble_eq_true rfl) [0, 1, 2, 3, 4, 5] (by decide) rfl

set_option maxHeartbeats 4000000 in
set_option maxRecDepth 100000 in
theorem c1461_L_played (l : Launch) (g : gG) (hlx : l.stackTraces = false) (q1 q4 q18 q22 q25 q33 q37 : Nat) (x2 x3 : Int32) (w8 w9 w10 w11 w12 w13 w14 w15 w16 w17 w21 w27 w28 w29 w30 w31 w32 w35 : Value) (f23 : Nat → Option Nat) (f38 : Nat → Int32) (hf24 : f23 0 = some q25) (hf39 : f38 35 = 0) (h5 : (0 : Int32) ≤ x3) (h6 : x3 ≤ 3) (h34 : (0 : Int32) ≤ x2) (sz : Nat) : Met l yL_played [Cond.codeWith yL_played cL_played 6 (some .int) [(0, 12, 15, 13), (0, 12, 19, 15), (0, 12, 23, 39)]] ({ frames := 7, cells := 1, slots := 6, locals := 125 } : Room) (va_Pc [.ref q1, .int 7, .int x2, .int x3, .ref q4] (PZ g sz [(q37, .inl (g.2 0, 40, .inl f38)), (q33, .inr (5, [w35, .ref q37])), (q25, .inr (8, [.ref q33, w27, w28, w29, w30, w31, w32])), (q22, .inl (g.2 3, 10, .inr (.inr (.inr (.inr f23))))), (q18, .inr (10, [.ref q22, .int 0, w21])), (q1, .inr (11, [.ref q18, w8, w9, w10, w11, w12, w13, w14, w15, w16, w17]))])) (QI g [(q37, .inl (g.2 0, 40, .inl f38)), (q33, .inr (5, [w35, .ref q37])), (q25, .inr (8, [.ref q33, w27, w28, w29, w30, w31, w32])), (q22, .inl (g.2 3, 10, .inr (.inr (.inr (.inr f23))))), (q18, .inr (10, [.ref q22, .int 0, w21])), (q1, .inr (11, [.ref q18, w8, w9, w10, w11, w12, w13, w14, w15, w16, w17]))] sz 3 (fun _ => [])) 1 6 (va_A [(q37, .inl (g.2 0, 40, .inl f38)), (q33, .inr (5, [w35, .ref q37])), (q25, .inr (8, [.ref q33, w27, w28, w29, w30, w31, w32])), (q22, .inl (g.2 3, 10, .inr (.inr (.inr (.inr f23))))), (q18, .inr (10, [.ref q22, .int 0, w21])), (q1, .inr (11, [.ref q18, w8, w9, w10, w11, w12, w13, w14, w15, w16, w17]))] sz) := by
  refine ofH (by decide) (Nat.le_of_ble_eq_true rfl) rfl ?_
  intro p e s m args below meth c A ls hAe hsz hx hb hml hr hlocks hin hown hE hP hD hA hS hl htb hz
  have hown : s.vm.findClass RL = some m.cls := hown
  refine lv_aload hx hb dL_played_0 (lv_at hl 4 rfl) ?_
  refine lv_iconst (v := 0) hx hb dL_played_2 (by decide) ?_
  refine lv_aload_n hx hb dL_played_3 rfl (lv_at hl 0 rfl) ?_
  refine lv_iload_n hx hb dL_played_4 rfl (lv_at hl 1 rfl) ?_
  refine lv_iload_n hx hb dL_played_5 rfl (lv_at hl 2 rfl) ?_
  refine lv_iload_n hx hb dL_played_6 rfl (lv_at hl 3 rfl) ?_
  refine gx_i (wr := []) (rVx (rest := [.int 0, .ref q4]) hx hb hml hown hE hP hD hS hA hz 5 rfl rfl (c1460_X9_played l g hlx q1 q18 q22 q25 q33 q37 x2 x3 w8 w9 w10 w11 w12 w13 w14 w15 w16 w17 w21 w27 w28 w29 w30 w31 w32 w35 f23 f38 (hf24) (hf39) h5 h6 h34 s.heap.size) (kV_X9_played hE (e778 hE) rfl rfl ⟨(Nat.le_of_ble_eq_true rfl), (Nat.le_of_ble_eq_true rfl)⟩) [0, 1, 2, 3, 4, 5] rfl (by decide) rfl hl.1 rfl (lv_room (Nat.le_of_ble_eq_true rfl)) dL_played_7 ⟨(Nat.le_of_ble_eq_true rfl), (Nat.le_of_ble_eq_true rfl)⟩) hP hD hS hA [0, 1, 2, 3, 4, 5] [] rfl rfl (by decide) (by decide) (fun ce9 q9 H locs hP hD hS hq1 hq2 hq3 => ?_)
  have hP : va_P g.1 vwCl [(q25, .inr (8, [.ref q33, w27, w28, w29, w30, w31, w32])), (q1, .inr (11, [.ref q18, w8, w9, w10, w11, w12, w13, w14, w15, w16, w17])), (q22, .inl (g.2 3, 10, .inr (.inr (.inr (.inr f23))))), (q18, .inr (10, [.ref q22, .int 0, w21])), (q37, .inl (g.2 0, 40, .inl f38)), (q33, .inr (5, [w35, .ref q37]))] H := hP
  have hD : va_D A [(q25, .inr (8, [.ref q33, w27, w28, w29, w30, w31, w32])), (q1, .inr (11, [.ref q18, w8, w9, w10, w11, w12, w13, w14, w15, w16, w17])), (q22, .inl (g.2 3, 10, .inr (.inr (.inr (.inr f23))))), (q18, .inr (10, [.ref q22, .int 0, w21])), (q37, .inl (g.2 0, 40, .inl f38)), (q33, .inr (5, [w35, .ref q37]))] := hD
  refine x_catch (name := "java/util/NoSuchElementException") (hh := [(0, 12, 15, 13), (0, 12, 19, 15), (0, 12, 23, 39)]) (tgt := 23) hown htb [⟨0, 12, 15, 13⟩, ⟨0, 12, 19, 15⟩] ⟨0, 12, 23, 39⟩ [] rfl (fun z hz => by
    rcases List.mem_cons.mp hz with rfl | hz
    · exact Or.inr ⟨by decide, "java/lang/IndexOutOfBoundsException", e532 hE, hE.2.2.2.2.2 ("java/util/NoSuchElementException", "java/lang/IndexOutOfBoundsException") (by decide +kernel)⟩
    rcases List.mem_cons.mp hz with rfl | hz
    · exact Or.inr ⟨by decide, "java/lang/IllegalArgumentException", e611 hE, hE.2.2.2.2.2 ("java/util/NoSuchElementException", "java/lang/IllegalArgumentException") (by decide +kernel)⟩
    exact nomatch hz) rfl (by decide) (e777 hE) (e785 hE) hq1 hq2 hq3 rfl ?_
  refine lv_astore (lv' := [(5, .ref q9), (0, .ref q1), (1, .int 7), (2, .int x2), (3, .int x3), (4, .ref q4)]) hx hb dL_played_23 hl (by decide) rfl (fun ls hl => ?_)
  refine lv_iconst (v := 3) hx hb dL_played_25 (by decide) ?_
  exact x_zret hx hb hr rfl rfl hlocks hP hD hS hAe hsz (Nat.le_of_ble_eq_true rfl) (Nat.le_of_ble_eq_true rfl) (fun _ => 0) [] (by decide) rfl dL_played_26

set_option maxHeartbeats 4000000 in
set_option maxRecDepth 100000 in
theorem c1462_X10_played (l : Launch) (g : gG) (q1 q43 q44 q45 : Nat) (x2 x3 : Int32) (w7 w8 w9 w10 w11 w12 w15 w16 w17 w18 w19 w20 w21 w22 w23 w24 w25 w26 w27 w28 w29 w30 w31 w32 w33 w34 w35 w36 w37 w38 w39 w40 w41 w42 : Value) (f46 : Nat → Int32) (f55 : Nat → Int32) (hf47 : f46 0 = 0) (hf48 : f46 49 = 0) (hf49 : f46 98 = 0) (hf50 : f46 147 = 0) (hf51 : f46 196 = 0) (hf52 : f46 245 = 0) (hf53 : f46 294 = 0) (hf54 : f46 343 = 0) (hf56 : f55 0 = 0) (hf57 : f55 1 = 0) (hf58 : f55 2 = 0) (hf59 : f55 3 = 0) (hf60 : f55 4 = 0) (hf61 : f55 5 = 0) (hf62 : f55 6 = 0) (hf63 : f55 7 = 0) (h4 : (0 : Int32) ≤ x3) (h5 : x3 ≤ 3) (h64 : (0 : Int32) ≤ x2) (sz : Nat) : Met l yX10_played [Cond.code yX10_played cX10_played 4 (some .int)] ({ frames := 3, cells := 0, slots := 0, locals := 66 } : Room) (va_Pc [.ref q1, .int 7, .int x2, .int x3] (PX g sz [(q45, .inl (g.2 0, 8, .inl f55)), (q44, .inl (g.2 0, 8, .inl f55)), (q43, .inl (g.2 0, 497, .inl f46)), (q1, .inr (12, [.ref q43, w7, w8, w9, w10, w11, w12, .ref q44, .ref q45, w15, w16, w17, w18, w19, w20, w21, w22, w23, w24, w25, w26, w27, w28, w29, w30, w31, w32, w33, w34, w35, w36, w37, w38, w39, w40, w41, w42]))])) (QI g [(q45, .inl (g.2 0, 8, .inl f55)), (q44, .inl (g.2 0, 8, .inl f55)), (q43, .inl (g.2 0, 497, .inl f46)), (q1, .inr (12, [.ref q43, w7, w8, w9, w10, w11, w12, .ref q44, .ref q45, w15, w16, w17, w18, w19, w20, w21, w22, w23, w24, w25, w26, w27, w28, w29, w30, w31, w32, w33, w34, w35, w36, w37, w38, w39, w40, w41, w42]))] sz 0 (fun _ => [(q1, .inr (12, [.ref q43, w7, w8, w9, w10, w11, .int 3, .ref q44, .ref q45, w15, w16, w17, w18, w19, w20, w21, w22, w23, w24, w25, w26, w27, w28, w29, w30, w31, w32, w33, w34, w35, w36, w37, w38, w39, w40, w41, w42]))])) 0 0 (va_A [(q45, .inl (g.2 0, 8, .inl f55)), (q44, .inl (g.2 0, 8, .inl f55)), (q43, .inl (g.2 0, 497, .inl f46)), (q1, .inr (12, [.ref q43, w7, w8, w9, w10, w11, w12, .ref q44, .ref q45, w15, w16, w17, w18, w19, w20, w21, w22, w23, w24, w25, w26, w27, w28, w29, w30, w31, w32, w33, w34, w35, w36, w37, w38, w39, w40, w41, w42]))] sz) := by
  refine ofN (by decide) (Nat.le_of_ble_eq_true rfl) rfl ?_
  intro p e s m args below meth c A ls hAe hsz hx hb hml hr hlocks hin hown hE hP hD hA hS hl
  have hown : s.vm.findClass RX10 = some m.cls := hown
  refine lv_aload_n hx hb dX10_played_0 rfl (lv_at hl 0 rfl) ?_
  refine lv_iload_n hx hb dX10_played_1 rfl (lv_at hl 1 rfl) ?_
  refine g0_i (rS (rest := [.ref q1]) hx hb hml hown hE hP hD (c94_X10_isPattern l g 7 (by decide) (by decide) s.heap.size) (kS_X10_isPattern hE (e1428 hE) rfl rfl ⟨(Nat.le_of_ble_eq_true rfl), (Nat.le_of_ble_eq_true rfl)⟩) [] rfl (by decide) rfl hl.1 rfl (lv_room (Nat.le_of_ble_eq_true rfl)) dX10_played_2 ⟨(Nat.le_of_ble_eq_true rfl), (Nat.le_of_ble_eq_true rfl)⟩) hP hD hS hA (fun u9 H locs hP hS => ?_)
  refine lv_if_ne (tgt := 12) hx hb dX10_played_5 (by decide) (fun _ => ?_) (fun h => absurd h (by decide))
  refine lv_iload_n hx hb dX10_played_12 rfl (lv_at hl 3 rfl) ?_
  refine lv_iconst (v := 0) hx hb dX10_played_13 (by decide) ?_
  refine lv_iconst (v := 3) hx hb dX10_played_14 (by decide) ?_
  refine g0_i (rS (rest := [.ref q1]) hx hb hml hown hE hP hD (c818_X10_in l g x3 h4 h5 H.size) (kS_X10_in hE (e1431 hE) rfl rfl ⟨(Nat.le_of_ble_eq_true rfl), (Nat.le_of_ble_eq_true rfl)⟩) [] rfl (by decide) rfl hl.1 rfl (lv_room (Nat.le_of_ble_eq_true rfl)) dX10_played_15 ⟨(Nat.le_of_ble_eq_true rfl), (Nat.le_of_ble_eq_true rfl)⟩) hP hD hS hA (fun u9 H locs hP hS => ?_)
  refine lv_if_ne (tgt := 25) hx hb dX10_played_18 (by decide) (fun _ => ?_) (fun h => absurd h (by decide))
  refine lv_iconst (v := 0) hx hb dX10_played_25 (by decide) ?_
  refine pf_RX10_86 (ws' := [(q45, .inl (g.2 0, 8, .inl f55)), (q44, .inl (g.2 0, 8, .inl f55)), (q43, .inl (g.2 0, 497, .inl f46)), (q1, .inr (12, [.ref q43, w7, w8, w9, w10, w11, .int 0, .ref q44, .ref q45, w15, w16, w17, w18, w19, w20, w21, w22, w23, w24, w25, w26, w27, w28, w29, w30, w31, w32, w33, w34, w35, w36, w37, w38, w39, w40, w41, w42]))]) hx hb hown hE hP hD hS 3 rfl rfl rfl (Nat.le_of_ble_eq_true rfl) dX10_played_26 rfl (fun H locs hP hD hS => ?_)
  refine lv_aload_n hx hb dX10_played_29 rfl (lv_at hl 0 rfl) ?_
  refine gf_RX10_86 hx hb hown hE hP 3 rfl rfl dX10_played_30 ?_
  refine lv_if_le (tgt := 38) hx hb dX10_played_33 (by decide) (fun _ => ?_) (fun h => absurd (by decide) h)
  refine lv_aload_n hx hb dX10_played_38 rfl (lv_at hl 0 rfl) ?_
  refine g_v (wr := []) (rV (rest := []) hx hb hml hown hE hP hD 3 rfl rfl (c1241_X10_layLengths l g q1 q43 q44 q45 w7 w8 w9 w10 w11 (.int 0) w15 w16 w17 w18 w19 w20 w21 w22 w23 w24 w25 w26 w27 w28 w29 w30 w31 w32 w33 w34 w35 w36 w37 w38 w39 w40 w41 w42 f46 f55 (hf47) (hf56) (hf48) (hf57) (hf49) (hf58) (hf50) (hf59) (hf51) (hf60) (hf52) (hf61) (hf53) (hf62) (hf54) (hf63) H.size) (kV_X10_layLengths hE (e1452 hE) rfl rfl ⟨(Nat.le_of_ble_eq_true rfl), (Nat.le_of_ble_eq_true rfl)⟩) [0, 1, 2, 3] rfl (by decide) rfl hl.1 rfl (lv_room (Nat.le_of_ble_eq_true rfl)) dX10_played_39 ⟨(Nat.le_of_ble_eq_true rfl), (Nat.le_of_ble_eq_true rfl)⟩) hP hD hS hA [0, 1, 2, 3] [] rfl rfl (by decide) (by decide) (fun u3 H locs hP hD hS => ?_)
  have hP : va_P g.1 vwCl [(q45, .inl (g.2 0, 8, .inl f55)), (q44, .inl (g.2 0, 8, .inl f55)), (q43, .inl (g.2 0, 497, .inl f46)), (q1, .inr (12, [.ref q43, w7, w8, w9, w10, w11, .int 0, .ref q44, .ref q45, w15, w16, w17, w18, w19, w20, w21, w22, w23, w24, w25, w26, w27, w28, w29, w30, w31, w32, w33, w34, w35, w36, w37, w38, w39, w40, w41, w42]))] H := hP
  have hD : va_D A [(q45, .inl (g.2 0, 8, .inl f55)), (q44, .inl (g.2 0, 8, .inl f55)), (q43, .inl (g.2 0, 497, .inl f46)), (q1, .inr (12, [.ref q43, w7, w8, w9, w10, w11, .int 0, .ref q44, .ref q45, w15, w16, w17, w18, w19, w20, w21, w22, w23, w24, w25, w26, w27, w28, w29, w30, w31, w32, w33, w34, w35, w36, w37, w38, w39, w40, w41, w42]))] := hD
  refine lv_iload_n hx hb dX10_played_42 rfl (lv_at hl 2 rfl) ?_
  refine lv_iconst (v := 0) hx hb dX10_played_43 (by decide) ?_
  refine lv_aload_n hx hb dX10_played_44 rfl (lv_at hl 0 rfl) ?_
  refine gf_RX10_25 hx hb hown hE hP 3 rfl rfl dX10_played_45 ?_
  refine lv_iload_n hx hb dX10_played_48 rfl (lv_at hl 1 rfl) ?_
  refine x_iald (v := 0) hx hb hE hP 0 rfl 7 (x_in (by decide)) (by decide) hf63 dX10_played_49 ?_
  refine lv_iconst (v := 1) hx hb dX10_played_50 (by decide) ?_
  refine x_isub (v := (-1)) hx hb dX10_played_51 (by decide) ?_
  refine g0_i (rS (rest := []) hx hb hml hown hE hP hD (c649_X10_in l g x2 h64 H.size) (kS_X10_in hE (e1431 hE) rfl rfl ⟨(Nat.le_of_ble_eq_true rfl), (Nat.le_of_ble_eq_true rfl)⟩) [] rfl (by decide) rfl hl.1 rfl (lv_room (Nat.le_of_ble_eq_true rfl)) dX10_played_52 ⟨(Nat.le_of_ble_eq_true rfl), (Nat.le_of_ble_eq_true rfl)⟩) hP hD hS hA (fun u9 H locs hP hS => ?_)
  refine lv_if_ne (tgt := 64) hx hb dX10_played_55 (by decide) (fun h => absurd h (by decide)) (fun _ => ?_)
  refine lv_aload_n hx hb dX10_played_58 rfl (lv_at hl 0 rfl) ?_
  refine lv_iconst (v := 3) hx hb dX10_played_59 (by decide) ?_
  refine g_i (wr := [(q45, .inl (g.2 0, 8, .inl f55)), (q44, .inl (g.2 0, 8, .inl f55)), (q43, .inl (g.2 0, 497, .inl f46))]) (rV (rest := []) hx hb hml hown hE hP hD 3 rfl rfl (c1433_X10_refuse l g q1 (.ref q43) w7 w8 w9 w10 w11 (.int 0) (.ref q44) (.ref q45) w15 w16 w17 w18 w19 w20 w21 w22 w23 w24 w25 w26 w27 w28 w29 w30 w31 w32 w33 w34 w35 w36 w37 w38 w39 w40 w41 w42 H.size) (kV_X10_refuse hE (e1474 hE) rfl rfl ⟨(Nat.le_of_ble_eq_true rfl), (Nat.le_of_ble_eq_true rfl)⟩) [3] rfl (by decide) rfl hl.1 rfl (lv_room (Nat.le_of_ble_eq_true rfl)) dX10_played_60 ⟨(Nat.le_of_ble_eq_true rfl), (Nat.le_of_ble_eq_true rfl)⟩) hP hD hS hA [3] [0, 1, 2] rfl rfl (by decide) (by decide) (fun u5 H locs hP hD hS => ?_)
  have hP : va_P g.1 vwCl [(q45, .inl (g.2 0, 8, .inl f55)), (q44, .inl (g.2 0, 8, .inl f55)), (q43, .inl (g.2 0, 497, .inl f46)), (q1, .inr (12, [.ref q43, w7, w8, w9, w10, w11, .int 3, .ref q44, .ref q45, w15, w16, w17, w18, w19, w20, w21, w22, w23, w24, w25, w26, w27, w28, w29, w30, w31, w32, w33, w34, w35, w36, w37, w38, w39, w40, w41, w42]))] H := hP
  have hD : va_D A [(q45, .inl (g.2 0, 8, .inl f55)), (q44, .inl (g.2 0, 8, .inl f55)), (q43, .inl (g.2 0, 497, .inl f46)), (q1, .inr (12, [.ref q43, w7, w8, w9, w10, w11, .int 3, .ref q44, .ref q45, w15, w16, w17, w18, w19, w20, w21, w22, w23, w24, w25, w26, w27, w28, w29, w30, w31, w32, w33, w34, w35, w36, w37, w38, w39, w40, w41, w42]))] := hD
  exact x_zret hx hb hr rfl rfl hlocks hP hD hS hAe hsz (Nat.le_of_ble_eq_true rfl) (Nat.le_of_ble_eq_true rfl) (fun _ => 0) [3] (by decide) rfl dX10_played_63

set_option maxHeartbeats 4000000 in
set_option maxRecDepth 100000 in
theorem c1463_X3_findNote (l : Launch) (g : gG) (q1 : Nat) (x2 x3 : Int32) (h4 : x3 < 0) (sz : Nat) : Met l yX3_findNote [Cond.code yX3_findNote cX3_findNote 10 (some .int)] ({ frames := 0, cells := 0, slots := 0, locals := 0 } : Room) (va_Pc [.ref q1, .int x2, .int x3] (PX g sz [])) (QI g [] sz (-1) (fun _ => [])) 0 0 (va_A [] sz) := by
  refine ofN (by decide) (Nat.le_of_ble_eq_true rfl) rfl ?_
  intro p e s m args below meth c A ls hAe hsz hx hb hml hr hlocks hin hown hE hP hD hA hS hl
  have hown : s.vm.findClass RX3 = some m.cls := hown
  refine lv_iload_n hx hb dX3_findNote_0 rfl (lv_at hl 2 rfl) ?_
  refine lv_if_ge (tgt := 6) hx hb dX3_findNote_1 (by decide) (fun h => absurd h (i_nle h4)) (fun _ => ?_)
  refine lv_iconst (v := (-1)) hx hb dX3_findNote_4 (by decide) ?_
  exact x_zret hx hb hr rfl rfl hlocks hP hD hS hAe hsz (Nat.le_of_ble_eq_true rfl) (Nat.le_of_ble_eq_true rfl) (fun _ => 0) [] (by decide) rfl dX3_findNote_5

set_option maxHeartbeats 4000000 in
set_option maxRecDepth 100000 in
theorem c1464_X9_played (l : Launch) (g : gG) (hlx : l.stackTraces = false) (q1 q20 q24 q27 q35 : Nat) (x2 x3 x4 : Int32) (w10 w11 w12 w13 w14 w15 w16 w17 w18 w19 w23 w29 w30 w31 w32 w33 w34 w37 w38 : Value) (f25 : Nat → Option Nat) (hf26 : f25 0 = some q27) (h5 : (0 : Int32) ≤ x2) (h6 : x2 < 8) (h7 : (0 : Int32) ≤ x4) (h8 : x4 ≤ 3) (h36 : x3 < 0) (sz : Nat) : vx_Met l yX9_played [Cond.code yX9_played cX9_played 6 (some .int)] ({ frames := 6, cells := 1, slots := 6, locals := 100 } : Room) (va_Pc [.ref q1, .int x2, .int x3, .int x4] (PZ g sz [(q35, .inr (5, [w37, w38])), (q27, .inr (8, [.ref q35, w29, w30, w31, w32, w33, w34])), (q24, .inl (g.2 3, 10, .inr (.inr (.inr (.inr f25))))), (q20, .inr (10, [.ref q24, .int 0, w23])), (q1, .inr (11, [.ref q20, w10, w11, w12, w13, w14, w15, w16, w17, w18, w19]))])) NI (XW g [(q35, .inr (5, [w37, w38])), (q27, .inr (8, [.ref q35, w29, w30, w31, w32, w33, w34])), (q24, .inl (g.2 3, 10, .inr (.inr (.inr (.inr f25))))), (q20, .inr (10, [.ref q24, .int 0, w23])), (q1, .inr (11, [.ref q20, w10, w11, w12, w13, w14, w15, w16, w17, w18, w19]))] sz "java/util/NoSuchElementException" [(q35, .inr (5, [w37, w38])), (q27, .inr (8, [.ref q35, w29, w30, w31, w32, w33, w34])), (q1, .inr (11, [.ref q20, w10, w11, w12, w13, w14, w15, w16, w17, w18, w19])), (q24, .inl (g.2 3, 10, .inr (.inr (.inr (.inr f25))))), (q20, .inr (10, [.ref q24, .int 0, w23]))]) 1 6 (va_A [(q35, .inr (5, [w37, w38])), (q27, .inr (8, [.ref q35, w29, w30, w31, w32, w33, w34])), (q24, .inl (g.2 3, 10, .inr (.inr (.inr (.inr f25))))), (q20, .inr (10, [.ref q24, .int 0, w23])), (q1, .inr (11, [.ref q20, w10, w11, w12, w13, w14, w15, w16, w17, w18, w19]))] sz) := by
  refine ofX (by decide) (Nat.le_of_ble_eq_true rfl) rfl ?_
  intro p e s m args below meth c A ls hAe hsz hx hb hml hr hlocks hin hown hE hP hD hA hS hl hex hz
  have hown : s.vm.findClass RX9 = some m.cls := hown
  refine lv_iload_n hx hb dX9_played_0 rfl (lv_at hl 1 rfl) ?_
  refine g0_v (rS (rest := []) hx hb hml hown hE hP hD (c89_X9_requirePattern l g x2 h5 h6 s.heap.size) (kS_X9_requirePattern hE (e617 hE) rfl rfl ⟨(Nat.le_of_ble_eq_true rfl), (Nat.le_of_ble_eq_true rfl)⟩) [] rfl (by decide) rfl hl.1 rfl (lv_room (Nat.le_of_ble_eq_true rfl)) dX9_played_1 ⟨(Nat.le_of_ble_eq_true rfl), (Nat.le_of_ble_eq_true rfl)⟩) hP hD hS hA (fun u9 H locs hP hS => ?_)
  refine lv_iload_n hx hb dX9_played_4 rfl (lv_at hl 3 rfl) ?_
  refine lv_iconst (v := 0) hx hb dX9_played_5 (by decide) ?_
  refine lv_iconst (v := 3) hx hb dX9_played_6 (by decide) ?_
  refine g0_v (rS (rest := []) hx hb hml hown hE hP hD (c815_X9_requireRange l g x4 h7 h8 H.size) (kS_X9_requireRange hE (e636 hE) rfl rfl ⟨(Nat.le_of_ble_eq_true rfl), (Nat.le_of_ble_eq_true rfl)⟩) [] rfl (by decide) rfl hl.1 rfl (lv_room (Nat.le_of_ble_eq_true rfl)) dX9_played_7 ⟨(Nat.le_of_ble_eq_true rfl), (Nat.le_of_ble_eq_true rfl)⟩) hP hD hS hA (fun u9 H locs hP hS => ?_)
  refine lv_aload_n hx hb dX9_played_10 rfl (lv_at hl 0 rfl) ?_
  refine gf_RX9_12 hx hb hown hE hP 4 rfl rfl dX9_played_11 ?_
  refine g_r (wr := [(q35, .inr (5, [w37, w38])), (q27, .inr (8, [.ref q35, w29, w30, w31, w32, w33, w34])), (q1, .inr (11, [.ref q20, w10, w11, w12, w13, w14, w15, w16, w17, w18, w19]))]) (rV (rest := []) hx hb hml hown hE hP hD 3 rfl rfl (c71_X8_current l g q20 q24 q27 w23 f25 (hf26) H.size) (kV_X8_current hE (e290 hE) rfl rfl ⟨(Nat.le_of_ble_eq_true rfl), (Nat.le_of_ble_eq_true rfl)⟩) [2, 3] rfl (by decide) rfl hl.1 rfl (lv_room (Nat.le_of_ble_eq_true rfl)) dX9_played_14 ⟨(Nat.le_of_ble_eq_true rfl), (Nat.le_of_ble_eq_true rfl)⟩) hP hD hS hA [2, 3] [0, 1, 4] rfl rfl (by decide) (by decide) (fun u3 H locs hP hD hS => ?_)
  have hP : va_P g.1 vwCl [(q35, .inr (5, [w37, w38])), (q27, .inr (8, [.ref q35, w29, w30, w31, w32, w33, w34])), (q1, .inr (11, [.ref q20, w10, w11, w12, w13, w14, w15, w16, w17, w18, w19])), (q24, .inl (g.2 3, 10, .inr (.inr (.inr (.inr f25))))), (q20, .inr (10, [.ref q24, .int 0, w23]))] H := hP
  have hD : va_D A [(q35, .inr (5, [w37, w38])), (q27, .inr (8, [.ref q35, w29, w30, w31, w32, w33, w34])), (q1, .inr (11, [.ref q20, w10, w11, w12, w13, w14, w15, w16, w17, w18, w19])), (q24, .inl (g.2 3, 10, .inr (.inr (.inr (.inr f25))))), (q20, .inr (10, [.ref q24, .int 0, w23]))] := hD
  refine gf_RX9_108 hx hb hown hE hP 1 rfl rfl dX9_played_17 ?_
  refine lv_astore (lv' := [(4, .ref q35), (0, .ref q1), (1, .int x2), (2, .int x3), (3, .int x4)]) hx hb dX9_played_20 hl (by decide) rfl (fun ls hl => ?_)
  refine lv_aload hx hb dX9_played_22 (lv_at hl 0 rfl) ?_
  refine lv_iload_n hx hb dX9_played_24 rfl (lv_at hl 2 rfl) ?_
  refine lv_iload_n hx hb dX9_played_25 rfl (lv_at hl 3 rfl) ?_
  refine g0_i (rV (rest := []) hx hb hml hown hE hP hD 0 rfl rfl (c1463_X3_findNote l g q35 x2 x3 h36 H.size) (kV_X3_findNote hE (e782 hE) rfl rfl ⟨(Nat.le_of_ble_eq_true rfl), (Nat.le_of_ble_eq_true rfl)⟩) [] rfl (by decide) rfl hl.1 rfl (lv_room (Nat.le_of_ble_eq_true rfl)) dX9_played_26 ⟨(Nat.le_of_ble_eq_true rfl), (Nat.le_of_ble_eq_true rfl)⟩) hP hD hS hA (fun u9 H locs hP hS => ?_)
  refine lv_istore (lv' := [(5, .int (-1)), (4, .ref q35), (0, .ref q1), (1, .int x2), (2, .int x3), (3, .int x4)]) hx hb dX9_played_29 hl (by decide) rfl (fun ls hl => ?_)
  refine lv_iload hx hb dX9_played_31 (lv_at hl 0 rfl) ?_
  refine lv_iconst (v := (-1)) hx hb dX9_played_33 (by decide) ?_
  refine lv_icmp_ne (tgt := 47) hx hb dX9_played_34 (by decide) (fun h => absurd h (by decide)) (fun _ => ?_)
  exact x_throwN (text := "no such note") hx hb hlx hown hE (e783 hE) (e23 hE) (by decide +kernel) hz (by rw [hml]; exact hl.1) dX9_played_37 dX9_played_40 dX9_played_41 dX9_played_43 dX9_played_46 hex (Nat.le_of_ble_eq_true rfl) (Nat.le_of_ble_eq_true rfl) (Nat.le_of_ble_eq_true rfl) (Nat.le_of_ble_eq_true rfl) hlocks hP hD hS hAe hsz (Nat.le_of_ble_eq_true rfl) (Nat.le_of_ble_eq_true rfl) [0, 1, 2, 3, 4] (by decide) rfl

set_option maxHeartbeats 4000000 in
set_option maxRecDepth 100000 in
theorem c1465_L_played (l : Launch) (g : gG) (hlx : l.stackTraces = false) (q1 q5 q21 q25 q28 q36 : Nat) (x2 x3 x4 : Int32) (w11 w12 w13 w14 w15 w16 w17 w18 w19 w20 w24 w30 w31 w32 w33 w34 w35 w38 w39 : Value) (f26 : Nat → Option Nat) (hf27 : f26 0 = some q28) (h6 : (0 : Int32) ≤ x2) (h7 : x2 < 8) (h8 : (0 : Int32) ≤ x4) (h9 : x4 ≤ 3) (h37 : x3 < 0) (sz : Nat) : Met l yL_played [Cond.codeWith yL_played cL_played 6 (some .int) [(0, 12, 15, 13), (0, 12, 19, 15), (0, 12, 23, 39)]] ({ frames := 7, cells := 1, slots := 6, locals := 125 } : Room) (va_Pc [.ref q1, .int x2, .int x3, .int x4, .ref q5] (PZ g sz [(q36, .inr (5, [w38, w39])), (q28, .inr (8, [.ref q36, w30, w31, w32, w33, w34, w35])), (q25, .inl (g.2 3, 10, .inr (.inr (.inr (.inr f26))))), (q21, .inr (10, [.ref q25, .int 0, w24])), (q1, .inr (11, [.ref q21, w11, w12, w13, w14, w15, w16, w17, w18, w19, w20]))])) (QI g [(q36, .inr (5, [w38, w39])), (q28, .inr (8, [.ref q36, w30, w31, w32, w33, w34, w35])), (q25, .inl (g.2 3, 10, .inr (.inr (.inr (.inr f26))))), (q21, .inr (10, [.ref q25, .int 0, w24])), (q1, .inr (11, [.ref q21, w11, w12, w13, w14, w15, w16, w17, w18, w19, w20]))] sz 3 (fun _ => [])) 1 6 (va_A [(q36, .inr (5, [w38, w39])), (q28, .inr (8, [.ref q36, w30, w31, w32, w33, w34, w35])), (q25, .inl (g.2 3, 10, .inr (.inr (.inr (.inr f26))))), (q21, .inr (10, [.ref q25, .int 0, w24])), (q1, .inr (11, [.ref q21, w11, w12, w13, w14, w15, w16, w17, w18, w19, w20]))] sz) := by
  refine ofH (by decide) (Nat.le_of_ble_eq_true rfl) rfl ?_
  intro p e s m args below meth c A ls hAe hsz hx hb hml hr hlocks hin hown hE hP hD hA hS hl htb hz
  have hown : s.vm.findClass RL = some m.cls := hown
  refine lv_aload hx hb dL_played_0 (lv_at hl 4 rfl) ?_
  refine lv_iconst (v := 0) hx hb dL_played_2 (by decide) ?_
  refine lv_aload_n hx hb dL_played_3 rfl (lv_at hl 0 rfl) ?_
  refine lv_iload_n hx hb dL_played_4 rfl (lv_at hl 1 rfl) ?_
  refine lv_iload_n hx hb dL_played_5 rfl (lv_at hl 2 rfl) ?_
  refine lv_iload_n hx hb dL_played_6 rfl (lv_at hl 3 rfl) ?_
  refine gx_i (wr := []) (rVx (rest := [.int 0, .ref q5]) hx hb hml hown hE hP hD hS hA hz 4 rfl rfl (c1464_X9_played l g hlx q1 q21 q25 q28 q36 x2 x3 x4 w11 w12 w13 w14 w15 w16 w17 w18 w19 w20 w24 w30 w31 w32 w33 w34 w35 w38 w39 f26 (hf27) h6 h7 h8 h9 h37 s.heap.size) (kV_X9_played hE (e778 hE) rfl rfl ⟨(Nat.le_of_ble_eq_true rfl), (Nat.le_of_ble_eq_true rfl)⟩) [0, 1, 2, 3, 4] rfl (by decide) rfl hl.1 rfl (lv_room (Nat.le_of_ble_eq_true rfl)) dL_played_7 ⟨(Nat.le_of_ble_eq_true rfl), (Nat.le_of_ble_eq_true rfl)⟩) hP hD hS hA [0, 1, 2, 3, 4] [] rfl rfl (by decide) (by decide) (fun ce9 q9 H locs hP hD hS hq1 hq2 hq3 => ?_)
  have hP : va_P g.1 vwCl [(q36, .inr (5, [w38, w39])), (q28, .inr (8, [.ref q36, w30, w31, w32, w33, w34, w35])), (q1, .inr (11, [.ref q21, w11, w12, w13, w14, w15, w16, w17, w18, w19, w20])), (q25, .inl (g.2 3, 10, .inr (.inr (.inr (.inr f26))))), (q21, .inr (10, [.ref q25, .int 0, w24]))] H := hP
  have hD : va_D A [(q36, .inr (5, [w38, w39])), (q28, .inr (8, [.ref q36, w30, w31, w32, w33, w34, w35])), (q1, .inr (11, [.ref q21, w11, w12, w13, w14, w15, w16, w17, w18, w19, w20])), (q25, .inl (g.2 3, 10, .inr (.inr (.inr (.inr f26))))), (q21, .inr (10, [.ref q25, .int 0, w24]))] := hD
  refine x_catch (name := "java/util/NoSuchElementException") (hh := [(0, 12, 15, 13), (0, 12, 19, 15), (0, 12, 23, 39)]) (tgt := 23) hown htb [⟨0, 12, 15, 13⟩, ⟨0, 12, 19, 15⟩] ⟨0, 12, 23, 39⟩ [] rfl (fun z hz => by
    rcases List.mem_cons.mp hz with rfl | hz
    · exact Or.inr ⟨by decide, "java/lang/IndexOutOfBoundsException", e532 hE, hE.2.2.2.2.2 ("java/util/NoSuchElementException", "java/lang/IndexOutOfBoundsException") (by decide +kernel)⟩
    rcases List.mem_cons.mp hz with rfl | hz
    · exact Or.inr ⟨by decide, "java/lang/IllegalArgumentException", e611 hE, hE.2.2.2.2.2 ("java/util/NoSuchElementException", "java/lang/IllegalArgumentException") (by decide +kernel)⟩
    exact nomatch hz) rfl (by decide) (e777 hE) (e785 hE) hq1 hq2 hq3 rfl ?_
  refine lv_astore (lv' := [(5, .ref q9), (0, .ref q1), (1, .int x2), (2, .int x3), (3, .int x4), (4, .ref q5)]) hx hb dL_played_23 hl (by decide) rfl (fun ls hl => ?_)
  refine lv_iconst (v := 3) hx hb dL_played_25 (by decide) ?_
  exact x_zret hx hb hr rfl rfl hlocks hP hD hS hAe hsz (Nat.le_of_ble_eq_true rfl) (Nat.le_of_ble_eq_true rfl) (fun _ => 0) [] (by decide) rfl dL_played_26

set_option maxHeartbeats 4000000 in
set_option maxRecDepth 100000 in
theorem c1466_X10_played (l : Launch) (g : gG) (q1 q46 q47 q48 : Nat) (x2 x3 x4 : Int32) (w10 w11 w12 w13 w14 w15 w18 w19 w20 w21 w22 w23 w24 w25 w26 w27 w28 w29 w30 w31 w32 w33 w34 w35 w36 w37 w38 w39 w40 w41 w42 w43 w44 w45 : Value) (f49 : Nat → Int32) (hf50 : f49 0 = 0) (hf51 : f49 49 = 0) (hf52 : f49 98 = 0) (hf53 : f49 147 = 0) (hf54 : f49 196 = 0) (hf55 : f49 245 = 0) (hf56 : f49 294 = 0) (hf57 : f49 343 = 0) (h5 : (0 : Int32) ≤ x2) (h6 : x2 ≤ 7) (h7 : (0 : Int32) ≤ x4) (h8 : x4 ≤ 3) (h67 : x3 < 0) (sz : Nat) : Met l yX10_played [Cond.code yX10_played cX10_played 4 (some .int)] ({ frames := 3, cells := 0, slots := 0, locals := 66 } : Room) (va_Pc [.ref q1, .int x2, .int x3, .int x4] (PX g sz [(q48, .inl (g.2 0, 8, .inl (fun _ => 0))), (q47, .inl (g.2 0, 8, .inl (fun _ => 0))), (q46, .inl (g.2 0, 497, .inl f49)), (q1, .inr (12, [.ref q46, w10, w11, w12, w13, w14, w15, .ref q47, .ref q48, w18, w19, w20, w21, w22, w23, w24, w25, w26, w27, w28, w29, w30, w31, w32, w33, w34, w35, w36, w37, w38, w39, w40, w41, w42, w43, w44, w45]))])) (QI g [(q48, .inl (g.2 0, 8, .inl (fun _ => 0))), (q47, .inl (g.2 0, 8, .inl (fun _ => 0))), (q46, .inl (g.2 0, 497, .inl f49)), (q1, .inr (12, [.ref q46, w10, w11, w12, w13, w14, w15, .ref q47, .ref q48, w18, w19, w20, w21, w22, w23, w24, w25, w26, w27, w28, w29, w30, w31, w32, w33, w34, w35, w36, w37, w38, w39, w40, w41, w42, w43, w44, w45]))] sz 0 (fun _ => [(q1, .inr (12, [.ref q46, w10, w11, w12, w13, w14, .int 3, .ref q47, .ref q48, w18, w19, w20, w21, w22, w23, w24, w25, w26, w27, w28, w29, w30, w31, w32, w33, w34, w35, w36, w37, w38, w39, w40, w41, w42, w43, w44, w45]))])) 0 0 (va_A [(q48, .inl (g.2 0, 8, .inl (fun _ => 0))), (q47, .inl (g.2 0, 8, .inl (fun _ => 0))), (q46, .inl (g.2 0, 497, .inl f49)), (q1, .inr (12, [.ref q46, w10, w11, w12, w13, w14, w15, .ref q47, .ref q48, w18, w19, w20, w21, w22, w23, w24, w25, w26, w27, w28, w29, w30, w31, w32, w33, w34, w35, w36, w37, w38, w39, w40, w41, w42, w43, w44, w45]))] sz) := by
  refine ofN (by decide) (Nat.le_of_ble_eq_true rfl) rfl ?_
  intro p e s m args below meth c A ls hAe hsz hx hb hml hr hlocks hin hown hE hP hD hA hS hl
  have hown : s.vm.findClass RX10 = some m.cls := hown
  refine lv_aload_n hx hb dX10_played_0 rfl (lv_at hl 0 rfl) ?_
  refine lv_iload_n hx hb dX10_played_1 rfl (lv_at hl 1 rfl) ?_
  refine g0_i (rS (rest := [.ref q1]) hx hb hml hown hE hP hD (c94_X10_isPattern l g x2 h5 h6 s.heap.size) (kS_X10_isPattern hE (e1428 hE) rfl rfl ⟨(Nat.le_of_ble_eq_true rfl), (Nat.le_of_ble_eq_true rfl)⟩) [] rfl (by decide) rfl hl.1 rfl (lv_room (Nat.le_of_ble_eq_true rfl)) dX10_played_2 ⟨(Nat.le_of_ble_eq_true rfl), (Nat.le_of_ble_eq_true rfl)⟩) hP hD hS hA (fun u9 H locs hP hS => ?_)
  refine lv_if_ne (tgt := 12) hx hb dX10_played_5 (by decide) (fun _ => ?_) (fun h => absurd h (by decide))
  refine lv_iload_n hx hb dX10_played_12 rfl (lv_at hl 3 rfl) ?_
  refine lv_iconst (v := 0) hx hb dX10_played_13 (by decide) ?_
  refine lv_iconst (v := 3) hx hb dX10_played_14 (by decide) ?_
  refine g0_i (rS (rest := [.ref q1]) hx hb hml hown hE hP hD (c818_X10_in l g x4 h7 h8 H.size) (kS_X10_in hE (e1431 hE) rfl rfl ⟨(Nat.le_of_ble_eq_true rfl), (Nat.le_of_ble_eq_true rfl)⟩) [] rfl (by decide) rfl hl.1 rfl (lv_room (Nat.le_of_ble_eq_true rfl)) dX10_played_15 ⟨(Nat.le_of_ble_eq_true rfl), (Nat.le_of_ble_eq_true rfl)⟩) hP hD hS hA (fun u9 H locs hP hS => ?_)
  refine lv_if_ne (tgt := 25) hx hb dX10_played_18 (by decide) (fun _ => ?_) (fun h => absurd h (by decide))
  refine lv_iconst (v := 0) hx hb dX10_played_25 (by decide) ?_
  refine pf_RX10_86 (ws' := [(q48, .inl (g.2 0, 8, .inl (fun _ => 0))), (q47, .inl (g.2 0, 8, .inl (fun _ => 0))), (q46, .inl (g.2 0, 497, .inl f49)), (q1, .inr (12, [.ref q46, w10, w11, w12, w13, w14, .int 0, .ref q47, .ref q48, w18, w19, w20, w21, w22, w23, w24, w25, w26, w27, w28, w29, w30, w31, w32, w33, w34, w35, w36, w37, w38, w39, w40, w41, w42, w43, w44, w45]))]) hx hb hown hE hP hD hS 3 rfl rfl rfl (Nat.le_of_ble_eq_true rfl) dX10_played_26 rfl (fun H locs hP hD hS => ?_)
  refine lv_aload_n hx hb dX10_played_29 rfl (lv_at hl 0 rfl) ?_
  refine gf_RX10_86 hx hb hown hE hP 3 rfl rfl dX10_played_30 ?_
  refine lv_if_le (tgt := 38) hx hb dX10_played_33 (by decide) (fun _ => ?_) (fun h => absurd (by decide) h)
  refine lv_aload_n hx hb dX10_played_38 rfl (lv_at hl 0 rfl) ?_
  refine g_v (wr := []) (rV (rest := []) hx hb hml hown hE hP hD 3 rfl rfl (c1241_X10_layLengths l g q1 q46 q47 q48 w10 w11 w12 w13 w14 (.int 0) w18 w19 w20 w21 w22 w23 w24 w25 w26 w27 w28 w29 w30 w31 w32 w33 w34 w35 w36 w37 w38 w39 w40 w41 w42 w43 w44 w45 f49 (fun _ => 0) (hf50) (rfl) (hf51) (rfl) (hf52) (rfl) (hf53) (rfl) (hf54) (rfl) (hf55) (rfl) (hf56) (rfl) (hf57) (rfl) H.size) (kV_X10_layLengths hE (e1452 hE) rfl rfl ⟨(Nat.le_of_ble_eq_true rfl), (Nat.le_of_ble_eq_true rfl)⟩) [0, 1, 2, 3] rfl (by decide) rfl hl.1 rfl (lv_room (Nat.le_of_ble_eq_true rfl)) dX10_played_39 ⟨(Nat.le_of_ble_eq_true rfl), (Nat.le_of_ble_eq_true rfl)⟩) hP hD hS hA [0, 1, 2, 3] [] rfl rfl (by decide) (by decide) (fun u3 H locs hP hD hS => ?_)
  have hP : va_P g.1 vwCl [(q48, .inl (g.2 0, 8, .inl (fun _ => 0))), (q47, .inl (g.2 0, 8, .inl (fun _ => 0))), (q46, .inl (g.2 0, 497, .inl f49)), (q1, .inr (12, [.ref q46, w10, w11, w12, w13, w14, .int 0, .ref q47, .ref q48, w18, w19, w20, w21, w22, w23, w24, w25, w26, w27, w28, w29, w30, w31, w32, w33, w34, w35, w36, w37, w38, w39, w40, w41, w42, w43, w44, w45]))] H := hP
  have hD : va_D A [(q48, .inl (g.2 0, 8, .inl (fun _ => 0))), (q47, .inl (g.2 0, 8, .inl (fun _ => 0))), (q46, .inl (g.2 0, 497, .inl f49)), (q1, .inr (12, [.ref q46, w10, w11, w12, w13, w14, .int 0, .ref q47, .ref q48, w18, w19, w20, w21, w22, w23, w24, w25, w26, w27, w28, w29, w30, w31, w32, w33, w34, w35, w36, w37, w38, w39, w40, w41, w42, w43, w44, w45]))] := hD
  refine lv_iload_n hx hb dX10_played_42 rfl (lv_at hl 2 rfl) ?_
  refine lv_iconst (v := 0) hx hb dX10_played_43 (by decide) ?_
  refine lv_aload_n hx hb dX10_played_44 rfl (lv_at hl 0 rfl) ?_
  refine gf_RX10_25 hx hb hown hE hP 3 rfl rfl dX10_played_45 ?_
  refine lv_iload_n hx hb dX10_played_48 rfl (lv_at hl 1 rfl) ?_
  refine x_iald (v := 0) hx hb hE hP 0 rfl _ (x_in2 h5 (show _ < (8 : Int32) from (i_lelt h6 (by decide))) (by decide)) rfl rfl dX10_played_49 ?_
  refine lv_iconst (v := 1) hx hb dX10_played_50 (by decide) ?_
  refine x_isub (v := (-1)) hx hb dX10_played_51 (by decide) ?_
  refine g0_i (rS (rest := []) hx hb hml hown hE hP hD (c642_X10_in l g x3 (-1) h67 H.size) (kS_X10_in hE (e1431 hE) rfl rfl ⟨(Nat.le_of_ble_eq_true rfl), (Nat.le_of_ble_eq_true rfl)⟩) [] rfl (by decide) rfl hl.1 rfl (lv_room (Nat.le_of_ble_eq_true rfl)) dX10_played_52 ⟨(Nat.le_of_ble_eq_true rfl), (Nat.le_of_ble_eq_true rfl)⟩) hP hD hS hA (fun u9 H locs hP hS => ?_)
  refine lv_if_ne (tgt := 64) hx hb dX10_played_55 (by decide) (fun h => absurd h (by decide)) (fun _ => ?_)
  refine lv_aload_n hx hb dX10_played_58 rfl (lv_at hl 0 rfl) ?_
  refine lv_iconst (v := 3) hx hb dX10_played_59 (by decide) ?_
  refine g_i (wr := [(q48, .inl (g.2 0, 8, .inl (fun _ => 0))), (q47, .inl (g.2 0, 8, .inl (fun _ => 0))), (q46, .inl (g.2 0, 497, .inl f49))]) (rV (rest := []) hx hb hml hown hE hP hD 3 rfl rfl (c1433_X10_refuse l g q1 (.ref q46) w10 w11 w12 w13 w14 (.int 0) (.ref q47) (.ref q48) w18 w19 w20 w21 w22 w23 w24 w25 w26 w27 w28 w29 w30 w31 w32 w33 w34 w35 w36 w37 w38 w39 w40 w41 w42 w43 w44 w45 H.size) (kV_X10_refuse hE (e1474 hE) rfl rfl ⟨(Nat.le_of_ble_eq_true rfl), (Nat.le_of_ble_eq_true rfl)⟩) [3] rfl (by decide) rfl hl.1 rfl (lv_room (Nat.le_of_ble_eq_true rfl)) dX10_played_60 ⟨(Nat.le_of_ble_eq_true rfl), (Nat.le_of_ble_eq_true rfl)⟩) hP hD hS hA [3] [0, 1, 2] rfl rfl (by decide) (by decide) (fun u5 H locs hP hD hS => ?_)
  have hP : va_P g.1 vwCl [(q48, .inl (g.2 0, 8, .inl (fun _ => 0))), (q47, .inl (g.2 0, 8, .inl (fun _ => 0))), (q46, .inl (g.2 0, 497, .inl f49)), (q1, .inr (12, [.ref q46, w10, w11, w12, w13, w14, .int 3, .ref q47, .ref q48, w18, w19, w20, w21, w22, w23, w24, w25, w26, w27, w28, w29, w30, w31, w32, w33, w34, w35, w36, w37, w38, w39, w40, w41, w42, w43, w44, w45]))] H := hP
  have hD : va_D A [(q48, .inl (g.2 0, 8, .inl (fun _ => 0))), (q47, .inl (g.2 0, 8, .inl (fun _ => 0))), (q46, .inl (g.2 0, 497, .inl f49)), (q1, .inr (12, [.ref q46, w10, w11, w12, w13, w14, .int 3, .ref q47, .ref q48, w18, w19, w20, w21, w22, w23, w24, w25, w26, w27, w28, w29, w30, w31, w32, w33, w34, w35, w36, w37, w38, w39, w40, w41, w42, w43, w44, w45]))] := hD
  exact x_zret hx hb hr rfl rfl hlocks hP hD hS hAe hsz (Nat.le_of_ble_eq_true rfl) (Nat.le_of_ble_eq_true rfl) (fun _ => 0) [3] (by decide) rfl dX10_played_63

set_option maxHeartbeats 4000000 in
set_option maxRecDepth 100000 in
theorem c1467_X9_played (l : Launch) (g : gG) (hlx : l.stackTraces = false) (q1 : Nat) (x2 x3 x4 : Int32) (h5 : (0 : Int32) ≤ x2) (h6 : x2 < 8) (h7 : (0 : Int32) ≤ x4) (h8 : (3 : Int32) < x4) (sz : Nat) : vx_Met l yX9_played [Cond.code yX9_played cX9_played 6 (some .int)] ({ frames := 7, cells := 1, slots := 6, locals := 122 } : Room) (va_Pc [.ref q1, .int x2, .int x3, .int x4] (PZ g sz [])) NI (XW g [] sz "java/lang/IllegalArgumentException" []) 1 6 (va_A [] sz) := by
  refine ofX (by decide) (Nat.le_of_ble_eq_true rfl) rfl ?_
  intro p e s m args below meth c A ls hAe hsz hx hb hml hr hlocks hin hown hE hP hD hA hS hl hex hz
  have hown : s.vm.findClass RX9 = some m.cls := hown
  refine lv_iload_n hx hb dX9_played_0 rfl (lv_at hl 1 rfl) ?_
  refine g0_v (rS (rest := []) hx hb hml hown hE hP hD (c89_X9_requirePattern l g x2 h5 h6 s.heap.size) (kS_X9_requirePattern hE (e617 hE) rfl rfl ⟨(Nat.le_of_ble_eq_true rfl), (Nat.le_of_ble_eq_true rfl)⟩) [] rfl (by decide) rfl hl.1 rfl (lv_room (Nat.le_of_ble_eq_true rfl)) dX9_played_1 ⟨(Nat.le_of_ble_eq_true rfl), (Nat.le_of_ble_eq_true rfl)⟩) hP hD hS hA (fun u9 H locs hP hS => ?_)
  refine lv_iload_n hx hb dX9_played_4 rfl (lv_at hl 3 rfl) ?_
  refine lv_iconst (v := 0) hx hb dX9_played_5 (by decide) ?_
  refine lv_iconst (v := 3) hx hb dX9_played_6 (by decide) ?_
  refine gx_v (wr := []) (rSx (rest := []) hx hb hml hown hE hP hD hS hA hz (c880_X9_requireRange l g hlx x4 h7 h8 H.size) (kS_X9_requireRange hE (e636 hE) rfl rfl ⟨(Nat.le_of_ble_eq_true rfl), (Nat.le_of_ble_eq_true rfl)⟩) [] rfl (by decide) rfl hl.1 rfl (lv_room (Nat.le_of_ble_eq_true rfl)) dX9_played_7 ⟨(Nat.le_of_ble_eq_true rfl), (Nat.le_of_ble_eq_true rfl)⟩) hP hD hS hA [] [] rfl rfl (by decide) (by decide) (fun ce9 q9 H locs hP hD hS hq1 hq2 hq3 => ?_)
  exact x_out hex hlocks hq1 hq2 hq3 hP hD hS hAe hsz (Nat.le_of_ble_eq_true rfl) (Nat.le_of_ble_eq_true rfl) [] (by decide) rfl

set_option maxHeartbeats 4000000 in
set_option maxRecDepth 100000 in
theorem c1468_L_played (l : Launch) (g : gG) (hlx : l.stackTraces = false) (q1 q5 q20 q24 q27 q35 : Nat) (x2 x3 x4 : Int32) (w10 w11 w12 w13 w14 w15 w16 w17 w18 w19 w23 w29 w30 w31 w32 w33 w34 w36 w37 : Value) (f25 : Nat → Option Nat) (hf26 : f25 0 = some q27) (h6 : (0 : Int32) ≤ x2) (h7 : x2 < 8) (h8 : (0 : Int32) ≤ x4) (h38 : (3 : Int32) < x4) (sz : Nat) : Met l yL_played [Cond.codeWith yL_played cL_played 6 (some .int) [(0, 12, 15, 13), (0, 12, 19, 15), (0, 12, 23, 39)]] ({ frames := 8, cells := 1, slots := 6, locals := 147 } : Room) (va_Pc [.ref q1, .int x2, .int x3, .int x4, .ref q5] (PZ g sz [(q35, .inr (5, [w36, w37])), (q27, .inr (8, [.ref q35, w29, w30, w31, w32, w33, w34])), (q24, .inl (g.2 3, 10, .inr (.inr (.inr (.inr f25))))), (q20, .inr (10, [.ref q24, .int 0, w23])), (q1, .inr (11, [.ref q20, w10, w11, w12, w13, w14, w15, w16, w17, w18, w19]))])) (QI g [(q35, .inr (5, [w36, w37])), (q27, .inr (8, [.ref q35, w29, w30, w31, w32, w33, w34])), (q24, .inl (g.2 3, 10, .inr (.inr (.inr (.inr f25))))), (q20, .inr (10, [.ref q24, .int 0, w23])), (q1, .inr (11, [.ref q20, w10, w11, w12, w13, w14, w15, w16, w17, w18, w19]))] sz 2 (fun _ => [])) 1 6 (va_A [(q35, .inr (5, [w36, w37])), (q27, .inr (8, [.ref q35, w29, w30, w31, w32, w33, w34])), (q24, .inl (g.2 3, 10, .inr (.inr (.inr (.inr f25))))), (q20, .inr (10, [.ref q24, .int 0, w23])), (q1, .inr (11, [.ref q20, w10, w11, w12, w13, w14, w15, w16, w17, w18, w19]))] sz) := by
  refine ofH (by decide) (Nat.le_of_ble_eq_true rfl) rfl ?_
  intro p e s m args below meth c A ls hAe hsz hx hb hml hr hlocks hin hown hE hP hD hA hS hl htb hz
  have hown : s.vm.findClass RL = some m.cls := hown
  refine lv_aload hx hb dL_played_0 (lv_at hl 4 rfl) ?_
  refine lv_iconst (v := 0) hx hb dL_played_2 (by decide) ?_
  refine lv_aload_n hx hb dL_played_3 rfl (lv_at hl 0 rfl) ?_
  refine lv_iload_n hx hb dL_played_4 rfl (lv_at hl 1 rfl) ?_
  refine lv_iload_n hx hb dL_played_5 rfl (lv_at hl 2 rfl) ?_
  refine lv_iload_n hx hb dL_played_6 rfl (lv_at hl 3 rfl) ?_
  refine gx_i (wr := [(q35, .inr (5, [w36, w37])), (q27, .inr (8, [.ref q35, w29, w30, w31, w32, w33, w34])), (q24, .inl (g.2 3, 10, .inr (.inr (.inr (.inr f25))))), (q20, .inr (10, [.ref q24, .int 0, w23])), (q1, .inr (11, [.ref q20, w10, w11, w12, w13, w14, w15, w16, w17, w18, w19]))]) (rVx (rest := [.int 0, .ref q5]) hx hb hml hown hE hP hD hS hA hz 4 rfl rfl (c1467_X9_played l g hlx q1 x2 x3 x4 h6 h7 h8 h38 s.heap.size) (kV_X9_played hE (e778 hE) rfl rfl ⟨(Nat.le_of_ble_eq_true rfl), (Nat.le_of_ble_eq_true rfl)⟩) [] rfl (by decide) rfl hl.1 rfl (lv_room (Nat.le_of_ble_eq_true rfl)) dL_played_7 ⟨(Nat.le_of_ble_eq_true rfl), (Nat.le_of_ble_eq_true rfl)⟩) hP hD hS hA [] [0, 1, 2, 3, 4] rfl rfl (by decide) (by decide) (fun ce9 q9 H locs hP hD hS hq1 hq2 hq3 => ?_)
  have hP : va_P g.1 vwCl [(q35, .inr (5, [w36, w37])), (q27, .inr (8, [.ref q35, w29, w30, w31, w32, w33, w34])), (q24, .inl (g.2 3, 10, .inr (.inr (.inr (.inr f25))))), (q20, .inr (10, [.ref q24, .int 0, w23])), (q1, .inr (11, [.ref q20, w10, w11, w12, w13, w14, w15, w16, w17, w18, w19]))] H := hP
  have hD : va_D A [(q35, .inr (5, [w36, w37])), (q27, .inr (8, [.ref q35, w29, w30, w31, w32, w33, w34])), (q24, .inl (g.2 3, 10, .inr (.inr (.inr (.inr f25))))), (q20, .inr (10, [.ref q24, .int 0, w23])), (q1, .inr (11, [.ref q20, w10, w11, w12, w13, w14, w15, w16, w17, w18, w19]))] := hD
  refine x_catch (name := "java/lang/IllegalArgumentException") (hh := [(0, 12, 15, 13), (0, 12, 19, 15), (0, 12, 23, 39)]) (tgt := 19) hown htb [⟨0, 12, 15, 13⟩] ⟨0, 12, 19, 15⟩ [⟨0, 12, 23, 39⟩] rfl (fun z hz => by
    rcases List.mem_cons.mp hz with rfl | hz
    · exact Or.inr ⟨by decide, "java/lang/IndexOutOfBoundsException", e532 hE, hE.2.2.2.2.2 ("java/lang/IllegalArgumentException", "java/lang/IndexOutOfBoundsException") (by decide +kernel)⟩
    exact nomatch hz) rfl (by decide) (e611 hE) (e641 hE) hq1 hq2 hq3 rfl ?_
  refine lv_astore (lv' := [(5, .ref q9), (0, .ref q1), (1, .int x2), (2, .int x3), (3, .int x4), (4, .ref q5)]) hx hb dL_played_19 hl (by decide) rfl (fun ls hl => ?_)
  refine lv_iconst (v := 2) hx hb dL_played_21 (by decide) ?_
  exact x_zret hx hb hr rfl rfl hlocks hP hD hS hAe hsz (Nat.le_of_ble_eq_true rfl) (Nat.le_of_ble_eq_true rfl) (fun _ => 0) [] (by decide) rfl dL_played_22

set_option maxHeartbeats 4000000 in
set_option maxRecDepth 100000 in
theorem c1469_X10_played (l : Launch) (g : gG) (q1 : Nat) (x2 x3 x4 : Int32) (w9 w10 w11 w12 w13 w14 w15 w16 w17 w18 w19 w20 w21 w22 w23 w24 w25 w26 w27 w28 w29 w30 w31 w32 w33 w34 w35 w36 w37 w38 w39 w40 w41 w42 w43 w44 w45 : Value) (h5 : (0 : Int32) ≤ x2) (h6 : x2 ≤ 7) (h7 : (0 : Int32) ≤ x4) (h8 : (3 : Int32) < x4) (sz : Nat) : Met l yX10_played [Cond.code yX10_played cX10_played 4 (some .int)] ({ frames := 2, cells := 0, slots := 0, locals := 42 } : Room) (va_Pc [.ref q1, .int x2, .int x3, .int x4] (PX g sz [(q1, .inr (12, [w9, w10, w11, w12, w13, w14, w15, w16, w17, w18, w19, w20, w21, w22, w23, w24, w25, w26, w27, w28, w29, w30, w31, w32, w33, w34, w35, w36, w37, w38, w39, w40, w41, w42, w43, w44, w45]))])) (QI g [(q1, .inr (12, [w9, w10, w11, w12, w13, w14, w15, w16, w17, w18, w19, w20, w21, w22, w23, w24, w25, w26, w27, w28, w29, w30, w31, w32, w33, w34, w35, w36, w37, w38, w39, w40, w41, w42, w43, w44, w45]))] sz 0 (fun _ => [(q1, .inr (12, [w9, w10, w11, w12, w13, w14, .int 2, w16, w17, w18, w19, w20, w21, w22, w23, w24, w25, w26, w27, w28, w29, w30, w31, w32, w33, w34, w35, w36, w37, w38, w39, w40, w41, w42, w43, w44, w45]))])) 0 0 (va_A [(q1, .inr (12, [w9, w10, w11, w12, w13, w14, w15, w16, w17, w18, w19, w20, w21, w22, w23, w24, w25, w26, w27, w28, w29, w30, w31, w32, w33, w34, w35, w36, w37, w38, w39, w40, w41, w42, w43, w44, w45]))] sz) := by
  refine ofN (by decide) (Nat.le_of_ble_eq_true rfl) rfl ?_
  intro p e s m args below meth c A ls hAe hsz hx hb hml hr hlocks hin hown hE hP hD hA hS hl
  have hown : s.vm.findClass RX10 = some m.cls := hown
  refine lv_aload_n hx hb dX10_played_0 rfl (lv_at hl 0 rfl) ?_
  refine lv_iload_n hx hb dX10_played_1 rfl (lv_at hl 1 rfl) ?_
  refine g0_i (rS (rest := [.ref q1]) hx hb hml hown hE hP hD (c94_X10_isPattern l g x2 h5 h6 s.heap.size) (kS_X10_isPattern hE (e1428 hE) rfl rfl ⟨(Nat.le_of_ble_eq_true rfl), (Nat.le_of_ble_eq_true rfl)⟩) [] rfl (by decide) rfl hl.1 rfl (lv_room (Nat.le_of_ble_eq_true rfl)) dX10_played_2 ⟨(Nat.le_of_ble_eq_true rfl), (Nat.le_of_ble_eq_true rfl)⟩) hP hD hS hA (fun u9 H locs hP hS => ?_)
  refine lv_if_ne (tgt := 12) hx hb dX10_played_5 (by decide) (fun _ => ?_) (fun h => absurd h (by decide))
  refine lv_iload_n hx hb dX10_played_12 rfl (lv_at hl 3 rfl) ?_
  refine lv_iconst (v := 0) hx hb dX10_played_13 (by decide) ?_
  refine lv_iconst (v := 3) hx hb dX10_played_14 (by decide) ?_
  refine g0_i (rS (rest := [.ref q1]) hx hb hml hown hE hP hD (c883_X10_in l g x4 h7 h8 H.size) (kS_X10_in hE (e1431 hE) rfl rfl ⟨(Nat.le_of_ble_eq_true rfl), (Nat.le_of_ble_eq_true rfl)⟩) [] rfl (by decide) rfl hl.1 rfl (lv_room (Nat.le_of_ble_eq_true rfl)) dX10_played_15 ⟨(Nat.le_of_ble_eq_true rfl), (Nat.le_of_ble_eq_true rfl)⟩) hP hD hS hA (fun u9 H locs hP hS => ?_)
  refine lv_if_ne (tgt := 25) hx hb dX10_played_18 (by decide) (fun h => absurd h (by decide)) (fun _ => ?_)
  refine lv_iconst (v := 2) hx hb dX10_played_21 (by decide) ?_
  refine lv_goto (tgt := 26) hx hb dX10_played_22 (by decide) ?_
  refine pf_RX10_86 (ws' := [(q1, .inr (12, [w9, w10, w11, w12, w13, w14, .int 2, w16, w17, w18, w19, w20, w21, w22, w23, w24, w25, w26, w27, w28, w29, w30, w31, w32, w33, w34, w35, w36, w37, w38, w39, w40, w41, w42, w43, w44, w45]))]) hx hb hown hE hP hD hS 0 rfl rfl rfl (Nat.le_of_ble_eq_true rfl) dX10_played_26 rfl (fun H locs hP hD hS => ?_)
  refine lv_aload_n hx hb dX10_played_29 rfl (lv_at hl 0 rfl) ?_
  refine gf_RX10_86 hx hb hown hE hP 0 rfl rfl dX10_played_30 ?_
  refine lv_if_le (tgt := 38) hx hb dX10_played_33 (by decide) (fun h => absurd h (by decide)) (fun _ => ?_)
  refine lv_iconst (v := 0) hx hb dX10_played_36 (by decide) ?_
  exact x_zret hx hb hr rfl rfl hlocks hP hD hS hAe hsz (Nat.le_of_ble_eq_true rfl) (Nat.le_of_ble_eq_true rfl) (fun _ => 0) [0] (by decide) rfl dX10_played_37

set_option maxHeartbeats 4000000 in
set_option maxRecDepth 100000 in
theorem c1470_X9_played (l : Launch) (g : gG) (hlx : l.stackTraces = false) (q1 : Nat) (x2 x3 x4 : Int32) (h5 : (0 : Int32) ≤ x2) (h6 : (8 : Int32) ≤ x2) (sz : Nat) : vx_Met l yX9_played [Cond.code yX9_played cX9_played 6 (some .int)] ({ frames := 8, cells := 1, slots := 6, locals := 141 } : Room) (va_Pc [.ref q1, .int x2, .int x3, .int x4] (PZ g sz [])) NI (XW g [] sz "java/lang/IndexOutOfBoundsException" []) 1 6 (va_A [] sz) := by
  refine ofX (by decide) (Nat.le_of_ble_eq_true rfl) rfl ?_
  intro p e s m args below meth c A ls hAe hsz hx hb hml hr hlocks hin hown hE hP hD hA hS hl hex hz
  have hown : s.vm.findClass RX9 = some m.cls := hown
  refine lv_iload_n hx hb dX9_played_0 rfl (lv_at hl 1 rfl) ?_
  refine gx_v (wr := []) (rSx (rest := []) hx hb hml hown hE hP hD hS hA hz (c458_X9_requirePattern l g hlx x2 h5 h6 s.heap.size) (kS_X9_requirePattern hE (e617 hE) rfl rfl ⟨(Nat.le_of_ble_eq_true rfl), (Nat.le_of_ble_eq_true rfl)⟩) [] rfl (by decide) rfl hl.1 rfl (lv_room (Nat.le_of_ble_eq_true rfl)) dX9_played_1 ⟨(Nat.le_of_ble_eq_true rfl), (Nat.le_of_ble_eq_true rfl)⟩) hP hD hS hA [] [] rfl rfl (by decide) (by decide) (fun ce9 q9 H locs hP hD hS hq1 hq2 hq3 => ?_)
  exact x_out hex hlocks hq1 hq2 hq3 hP hD hS hAe hsz (Nat.le_of_ble_eq_true rfl) (Nat.le_of_ble_eq_true rfl) [] (by decide) rfl

set_option maxHeartbeats 4000000 in
set_option maxRecDepth 100000 in
theorem c1471_L_played (l : Launch) (g : gG) (hlx : l.stackTraces = false) (q1 q5 q19 q23 q26 q34 : Nat) (x2 x3 x4 : Int32) (w9 w10 w11 w12 w13 w14 w15 w16 w17 w18 w22 w28 w29 w30 w31 w32 w33 w35 w36 : Value) (f24 : Nat → Option Nat) (hf25 : f24 0 = some q26) (h6 : (0 : Int32) ≤ x2) (h7 : (8 : Int32) ≤ x2) (sz : Nat) : Met l yL_played [Cond.codeWith yL_played cL_played 6 (some .int) [(0, 12, 15, 13), (0, 12, 19, 15), (0, 12, 23, 39)]] ({ frames := 9, cells := 1, slots := 6, locals := 166 } : Room) (va_Pc [.ref q1, .int x2, .int x3, .int x4, .ref q5] (PZ g sz [(q34, .inr (5, [w35, w36])), (q26, .inr (8, [.ref q34, w28, w29, w30, w31, w32, w33])), (q23, .inl (g.2 3, 10, .inr (.inr (.inr (.inr f24))))), (q19, .inr (10, [.ref q23, .int 0, w22])), (q1, .inr (11, [.ref q19, w9, w10, w11, w12, w13, w14, w15, w16, w17, w18]))])) (QI g [(q34, .inr (5, [w35, w36])), (q26, .inr (8, [.ref q34, w28, w29, w30, w31, w32, w33])), (q23, .inl (g.2 3, 10, .inr (.inr (.inr (.inr f24))))), (q19, .inr (10, [.ref q23, .int 0, w22])), (q1, .inr (11, [.ref q19, w9, w10, w11, w12, w13, w14, w15, w16, w17, w18]))] sz 1 (fun _ => [])) 1 6 (va_A [(q34, .inr (5, [w35, w36])), (q26, .inr (8, [.ref q34, w28, w29, w30, w31, w32, w33])), (q23, .inl (g.2 3, 10, .inr (.inr (.inr (.inr f24))))), (q19, .inr (10, [.ref q23, .int 0, w22])), (q1, .inr (11, [.ref q19, w9, w10, w11, w12, w13, w14, w15, w16, w17, w18]))] sz) := by
  refine ofH (by decide) (Nat.le_of_ble_eq_true rfl) rfl ?_
  intro p e s m args below meth c A ls hAe hsz hx hb hml hr hlocks hin hown hE hP hD hA hS hl htb hz
  have hown : s.vm.findClass RL = some m.cls := hown
  refine lv_aload hx hb dL_played_0 (lv_at hl 4 rfl) ?_
  refine lv_iconst (v := 0) hx hb dL_played_2 (by decide) ?_
  refine lv_aload_n hx hb dL_played_3 rfl (lv_at hl 0 rfl) ?_
  refine lv_iload_n hx hb dL_played_4 rfl (lv_at hl 1 rfl) ?_
  refine lv_iload_n hx hb dL_played_5 rfl (lv_at hl 2 rfl) ?_
  refine lv_iload_n hx hb dL_played_6 rfl (lv_at hl 3 rfl) ?_
  refine gx_i (wr := [(q34, .inr (5, [w35, w36])), (q26, .inr (8, [.ref q34, w28, w29, w30, w31, w32, w33])), (q23, .inl (g.2 3, 10, .inr (.inr (.inr (.inr f24))))), (q19, .inr (10, [.ref q23, .int 0, w22])), (q1, .inr (11, [.ref q19, w9, w10, w11, w12, w13, w14, w15, w16, w17, w18]))]) (rVx (rest := [.int 0, .ref q5]) hx hb hml hown hE hP hD hS hA hz 4 rfl rfl (c1470_X9_played l g hlx q1 x2 x3 x4 h6 h7 s.heap.size) (kV_X9_played hE (e778 hE) rfl rfl ⟨(Nat.le_of_ble_eq_true rfl), (Nat.le_of_ble_eq_true rfl)⟩) [] rfl (by decide) rfl hl.1 rfl (lv_room (Nat.le_of_ble_eq_true rfl)) dL_played_7 ⟨(Nat.le_of_ble_eq_true rfl), (Nat.le_of_ble_eq_true rfl)⟩) hP hD hS hA [] [0, 1, 2, 3, 4] rfl rfl (by decide) (by decide) (fun ce9 q9 H locs hP hD hS hq1 hq2 hq3 => ?_)
  have hP : va_P g.1 vwCl [(q34, .inr (5, [w35, w36])), (q26, .inr (8, [.ref q34, w28, w29, w30, w31, w32, w33])), (q23, .inl (g.2 3, 10, .inr (.inr (.inr (.inr f24))))), (q19, .inr (10, [.ref q23, .int 0, w22])), (q1, .inr (11, [.ref q19, w9, w10, w11, w12, w13, w14, w15, w16, w17, w18]))] H := hP
  have hD : va_D A [(q34, .inr (5, [w35, w36])), (q26, .inr (8, [.ref q34, w28, w29, w30, w31, w32, w33])), (q23, .inl (g.2 3, 10, .inr (.inr (.inr (.inr f24))))), (q19, .inr (10, [.ref q23, .int 0, w22])), (q1, .inr (11, [.ref q19, w9, w10, w11, w12, w13, w14, w15, w16, w17, w18]))] := hD
  refine x_catch (name := "java/lang/IndexOutOfBoundsException") (hh := [(0, 12, 15, 13), (0, 12, 19, 15), (0, 12, 23, 39)]) (tgt := 15) hown htb [] ⟨0, 12, 15, 13⟩ [⟨0, 12, 19, 15⟩, ⟨0, 12, 23, 39⟩] rfl (fun _ h => nomatch h) rfl (by decide) (e532 hE) (e625 hE) hq1 hq2 hq3 rfl ?_
  refine lv_astore (lv' := [(5, .ref q9), (0, .ref q1), (1, .int x2), (2, .int x3), (3, .int x4), (4, .ref q5)]) hx hb dL_played_15 hl (by decide) rfl (fun ls hl => ?_)
  refine lv_iconst (v := 1) hx hb dL_played_17 (by decide) ?_
  exact x_zret hx hb hr rfl rfl hlocks hP hD hS hAe hsz (Nat.le_of_ble_eq_true rfl) (Nat.le_of_ble_eq_true rfl) (fun _ => 0) [] (by decide) rfl dL_played_18

set_option maxHeartbeats 4000000 in
set_option maxRecDepth 100000 in
theorem c1472_X10_played (l : Launch) (g : gG) (q1 : Nat) (x2 x3 x4 : Int32) (w7 w8 w9 w10 w11 w12 w13 w14 w15 w16 w17 w18 w19 w20 w21 w22 w23 w24 w25 w26 w27 w28 w29 w30 w31 w32 w33 w34 w35 w36 w37 w38 w39 w40 w41 w42 w43 : Value) (h5 : (0 : Int32) ≤ x2) (h6 : (7 : Int32) < x2) (sz : Nat) : Met l yX10_played [Cond.code yX10_played cX10_played 4 (some .int)] ({ frames := 2, cells := 0, slots := 0, locals := 42 } : Room) (va_Pc [.ref q1, .int x2, .int x3, .int x4] (PX g sz [(q1, .inr (12, [w7, w8, w9, w10, w11, w12, w13, w14, w15, w16, w17, w18, w19, w20, w21, w22, w23, w24, w25, w26, w27, w28, w29, w30, w31, w32, w33, w34, w35, w36, w37, w38, w39, w40, w41, w42, w43]))])) (QI g [(q1, .inr (12, [w7, w8, w9, w10, w11, w12, w13, w14, w15, w16, w17, w18, w19, w20, w21, w22, w23, w24, w25, w26, w27, w28, w29, w30, w31, w32, w33, w34, w35, w36, w37, w38, w39, w40, w41, w42, w43]))] sz 0 (fun _ => [(q1, .inr (12, [w7, w8, w9, w10, w11, w12, .int 1, w14, w15, w16, w17, w18, w19, w20, w21, w22, w23, w24, w25, w26, w27, w28, w29, w30, w31, w32, w33, w34, w35, w36, w37, w38, w39, w40, w41, w42, w43]))])) 0 0 (va_A [(q1, .inr (12, [w7, w8, w9, w10, w11, w12, w13, w14, w15, w16, w17, w18, w19, w20, w21, w22, w23, w24, w25, w26, w27, w28, w29, w30, w31, w32, w33, w34, w35, w36, w37, w38, w39, w40, w41, w42, w43]))] sz) := by
  refine ofN (by decide) (Nat.le_of_ble_eq_true rfl) rfl ?_
  intro p e s m args below meth c A ls hAe hsz hx hb hml hr hlocks hin hown hE hP hD hA hS hl
  have hown : s.vm.findClass RX10 = some m.cls := hown
  refine lv_aload_n hx hb dX10_played_0 rfl (lv_at hl 0 rfl) ?_
  refine lv_iload_n hx hb dX10_played_1 rfl (lv_at hl 1 rfl) ?_
  refine g0_i (rS (rest := [.ref q1]) hx hb hml hown hE hP hD (c462_X10_isPattern l g x2 h5 h6 s.heap.size) (kS_X10_isPattern hE (e1428 hE) rfl rfl ⟨(Nat.le_of_ble_eq_true rfl), (Nat.le_of_ble_eq_true rfl)⟩) [] rfl (by decide) rfl hl.1 rfl (lv_room (Nat.le_of_ble_eq_true rfl)) dX10_played_2 ⟨(Nat.le_of_ble_eq_true rfl), (Nat.le_of_ble_eq_true rfl)⟩) hP hD hS hA (fun u9 H locs hP hS => ?_)
  refine lv_if_ne (tgt := 12) hx hb dX10_played_5 (by decide) (fun h => absurd h (by decide)) (fun _ => ?_)
  refine lv_iconst (v := 1) hx hb dX10_played_8 (by decide) ?_
  refine lv_goto (tgt := 26) hx hb dX10_played_9 (by decide) ?_
  refine pf_RX10_86 (ws' := [(q1, .inr (12, [w7, w8, w9, w10, w11, w12, .int 1, w14, w15, w16, w17, w18, w19, w20, w21, w22, w23, w24, w25, w26, w27, w28, w29, w30, w31, w32, w33, w34, w35, w36, w37, w38, w39, w40, w41, w42, w43]))]) hx hb hown hE hP hD hS 0 rfl rfl rfl (Nat.le_of_ble_eq_true rfl) dX10_played_26 rfl (fun H locs hP hD hS => ?_)
  refine lv_aload_n hx hb dX10_played_29 rfl (lv_at hl 0 rfl) ?_
  refine gf_RX10_86 hx hb hown hE hP 0 rfl rfl dX10_played_30 ?_
  refine lv_if_le (tgt := 38) hx hb dX10_played_33 (by decide) (fun h => absurd h (by decide)) (fun _ => ?_)
  refine lv_iconst (v := 0) hx hb dX10_played_36 (by decide) ?_
  exact x_zret hx hb hr rfl rfl hlocks hP hD hS hAe hsz (Nat.le_of_ble_eq_true rfl) (Nat.le_of_ble_eq_true rfl) (fun _ => 0) [0] (by decide) rfl dX10_played_37

set_option maxHeartbeats 4000000 in
set_option maxRecDepth 100000 in
theorem c1473_X9_addClip (l : Launch) (g : gG) (hlx : l.stackTraces = false) (q1 : Nat) (x2 x3 x4 x5 x6 : Int32) (h7 : x2 < 0) (sz : Nat) : vx_Met l yX9_addClip [Cond.code yX9_addClip cX9_addClip 7 (some .int)] ({ frames := 7, cells := 1, slots := 6, locals := 122 } : Room) (va_Pc [.ref q1, .int x2, .int x3, .int x4, .int x5, .int x6] (PZ g sz [])) NI (XW g [] sz "java/lang/IllegalArgumentException" []) 1 6 (va_A [] sz) := by
  refine ofX (by decide) (Nat.le_of_ble_eq_true rfl) rfl ?_
  intro p e s m args below meth c A ls hAe hsz hx hb hml hr hlocks hin hown hE hP hD hA hS hl hex hz
  have hown : s.vm.findClass RX9 = some m.cls := hown
  refine lv_iload_n hx hb dX9_addClip_0 rfl (lv_at hl 1 rfl) ?_
  refine lv_iconst (v := 0) hx hb dX9_addClip_1 (by decide) ?_
  refine lv_sipush (v := 9999) hx hb dX9_addClip_2 (by decide) ?_
  refine gx_v (wr := []) (rSx (rest := []) hx hb hml hown hE hP hD hS hA hz (c639_X9_requireRange l g hlx x2 9999 h7 s.heap.size) (kS_X9_requireRange hE (e636 hE) rfl rfl ⟨(Nat.le_of_ble_eq_true rfl), (Nat.le_of_ble_eq_true rfl)⟩) [] rfl (by decide) rfl hl.1 rfl (lv_room (Nat.le_of_ble_eq_true rfl)) dX9_addClip_5 ⟨(Nat.le_of_ble_eq_true rfl), (Nat.le_of_ble_eq_true rfl)⟩) hP hD hS hA [] [] rfl rfl (by decide) (by decide) (fun ce9 q9 H locs hP hD hS hq1 hq2 hq3 => ?_)
  exact x_out hex hlocks hq1 hq2 hq3 hP hD hS hAe hsz (Nat.le_of_ble_eq_true rfl) (Nat.le_of_ble_eq_true rfl) [] (by decide) rfl

set_option maxHeartbeats 4000000 in
set_option maxRecDepth 100000 in
theorem c1474_L_addClip (l : Launch) (g : gG) (hlx : l.stackTraces = false) (q1 q7 : Nat) (x2 x3 x4 x5 x6 : Int32) (w9 w10 w11 w12 w13 w14 w15 w16 w17 w18 w19 : Value) (h8 : x2 < 0) (sz : Nat) : Met l yL_addClip [Cond.codeWith yL_addClip cL_addClip 8 (some .int) [(0, 16, 19, 15), (0, 16, 23, 17)]] ({ frames := 8, cells := 1, slots := 6, locals := 148 } : Room) (va_Pc [.ref q1, .int x2, .int x3, .int x4, .int x5, .int x6, .ref q7] (PZ g sz [(q1, .inr (11, [w9, w10, w11, w12, w13, w14, w15, w16, w17, w18, w19]))])) (QI g [(q1, .inr (11, [w9, w10, w11, w12, w13, w14, w15, w16, w17, w18, w19]))] sz 1 (fun _ => [])) 1 6 (va_A [(q1, .inr (11, [w9, w10, w11, w12, w13, w14, w15, w16, w17, w18, w19]))] sz) := by
  refine ofH (by decide) (Nat.le_of_ble_eq_true rfl) rfl ?_
  intro p e s m args below meth c A ls hAe hsz hx hb hml hr hlocks hin hown hE hP hD hA hS hl htb hz
  have hown : s.vm.findClass RL = some m.cls := hown
  refine lv_aload hx hb dL_addClip_0 (lv_at hl 6 rfl) ?_
  refine lv_iconst (v := 0) hx hb dL_addClip_2 (by decide) ?_
  refine lv_aload_n hx hb dL_addClip_3 rfl (lv_at hl 0 rfl) ?_
  refine lv_iload_n hx hb dL_addClip_4 rfl (lv_at hl 1 rfl) ?_
  refine lv_iload_n hx hb dL_addClip_5 rfl (lv_at hl 2 rfl) ?_
  refine lv_iload_n hx hb dL_addClip_6 rfl (lv_at hl 3 rfl) ?_
  refine lv_iload hx hb dL_addClip_7 (lv_at hl 4 rfl) ?_
  refine lv_iload hx hb dL_addClip_9 (lv_at hl 5 rfl) ?_
  refine gx_i (wr := [(q1, .inr (11, [w9, w10, w11, w12, w13, w14, w15, w16, w17, w18, w19]))]) (rVx (rest := [.int 0, .ref q7]) hx hb hml hown hE hP hD hS hA hz 0 rfl rfl (c1473_X9_addClip l g hlx q1 x2 x3 x4 x5 x6 h8 s.heap.size) (kV_X9_addClip hE (e803 hE) rfl rfl ⟨(Nat.le_of_ble_eq_true rfl), (Nat.le_of_ble_eq_true rfl)⟩) [] rfl (by decide) rfl hl.1 rfl (lv_room (Nat.le_of_ble_eq_true rfl)) dL_addClip_11 ⟨(Nat.le_of_ble_eq_true rfl), (Nat.le_of_ble_eq_true rfl)⟩) hP hD hS hA [] [0] rfl rfl (by decide) (by decide) (fun ce9 q9 H locs hP hD hS hq1 hq2 hq3 => ?_)
  have hP : va_P g.1 vwCl [(q1, .inr (11, [w9, w10, w11, w12, w13, w14, w15, w16, w17, w18, w19]))] H := hP
  have hD : va_D A [(q1, .inr (11, [w9, w10, w11, w12, w13, w14, w15, w16, w17, w18, w19]))] := hD
  refine x_catch (name := "java/lang/IllegalArgumentException") (hh := [(0, 16, 19, 15), (0, 16, 23, 17)]) (tgt := 19) hown htb [] ⟨0, 16, 19, 15⟩ [⟨0, 16, 23, 17⟩] rfl (fun _ h => nomatch h) rfl (by decide) (e611 hE) (e641 hE) hq1 hq2 hq3 rfl ?_
  refine lv_astore (lv' := [(7, .ref q9), (0, .ref q1), (1, .int x2), (2, .int x3), (3, .int x4), (4, .int x5), (5, .int x6), (6, .ref q7)]) hx hb dL_addClip_19 hl (by decide) rfl (fun ls hl => ?_)
  refine lv_iconst (v := 1) hx hb dL_addClip_21 (by decide) ?_
  exact x_zret hx hb hr rfl rfl hlocks hP hD hS hAe hsz (Nat.le_of_ble_eq_true rfl) (Nat.le_of_ble_eq_true rfl) (fun _ => 0) [] (by decide) rfl dL_addClip_22

set_option maxHeartbeats 4000000 in
set_option maxRecDepth 100000 in
theorem c1475_X10_refuse (l : Launch) (g : gG) (q1 : Nat) (w2 w3 w4 w5 w6 w7 w8 w9 w10 w11 w12 w13 w14 w15 w16 w17 w18 w19 w20 w21 w22 w23 w24 w25 w26 w27 w28 w29 w30 w31 w32 w33 w34 w35 w36 w37 w38 : Value) (sz : Nat) : Met l yX10_refuse [Cond.code yX10_refuse cX10_refuse 2 (some .int)] ({ frames := 0, cells := 0, slots := 0, locals := 0 } : Room) (va_Pc [.ref q1, .int 1] (PX g sz [(q1, .inr (12, [w2, w3, w4, w5, w6, w7, w8, w9, w10, w11, w12, w13, w14, w15, w16, w17, w18, w19, w20, w21, w22, w23, w24, w25, w26, w27, w28, w29, w30, w31, w32, w33, w34, w35, w36, w37, w38]))])) (QI g [(q1, .inr (12, [w2, w3, w4, w5, w6, w7, w8, w9, w10, w11, w12, w13, w14, w15, w16, w17, w18, w19, w20, w21, w22, w23, w24, w25, w26, w27, w28, w29, w30, w31, w32, w33, w34, w35, w36, w37, w38]))] sz 0 (fun _ => [(q1, .inr (12, [w2, w3, w4, w5, w6, w7, .int 1, w9, w10, w11, w12, w13, w14, w15, w16, w17, w18, w19, w20, w21, w22, w23, w24, w25, w26, w27, w28, w29, w30, w31, w32, w33, w34, w35, w36, w37, w38]))])) 0 0 (va_A [(q1, .inr (12, [w2, w3, w4, w5, w6, w7, w8, w9, w10, w11, w12, w13, w14, w15, w16, w17, w18, w19, w20, w21, w22, w23, w24, w25, w26, w27, w28, w29, w30, w31, w32, w33, w34, w35, w36, w37, w38]))] sz) := by
  refine ofN (by decide) (Nat.le_of_ble_eq_true rfl) rfl ?_
  intro p e s m args below meth c A ls hAe hsz hx hb hml hr hlocks hin hown hE hP hD hA hS hl
  have hown : s.vm.findClass RX10 = some m.cls := hown
  refine lv_aload_n hx hb dX10_refuse_0 rfl (lv_at hl 0 rfl) ?_
  refine lv_iload_n hx hb dX10_refuse_1 rfl (lv_at hl 1 rfl) ?_
  refine pf_RX10_86 (ws' := [(q1, .inr (12, [w2, w3, w4, w5, w6, w7, .int 1, w9, w10, w11, w12, w13, w14, w15, w16, w17, w18, w19, w20, w21, w22, w23, w24, w25, w26, w27, w28, w29, w30, w31, w32, w33, w34, w35, w36, w37, w38]))]) hx hb hown hE hP hD hS 0 rfl rfl rfl (Nat.le_of_ble_eq_true rfl) dX10_refuse_2 rfl (fun H locs hP hD hS => ?_)
  refine lv_iconst (v := 0) hx hb dX10_refuse_5 (by decide) ?_
  exact x_zret hx hb hr rfl rfl hlocks hP hD hS hAe hsz (Nat.le_of_ble_eq_true rfl) (Nat.le_of_ble_eq_true rfl) (fun _ => 0) [0] (by decide) rfl dX10_refuse_6

set_option maxHeartbeats 4000000 in
set_option maxRecDepth 100000 in
theorem c1476_X10_addClip (l : Launch) (g : gG) (q1 : Nat) (x2 x3 x4 x5 x6 : Int32) (w7 w8 w9 w10 w11 w12 w13 w14 w15 w16 w17 w18 w19 w20 w21 w22 w23 w24 w25 w26 w27 w28 w29 w30 w31 w32 w33 w34 w35 w36 w37 w38 w39 w40 w41 w42 w43 : Value) (h44 : x2 < 0) (sz : Nat) : Met l yX10_addClip [Cond.code yX10_addClip cX10_addClip 8 (some .int)] ({ frames := 1, cells := 0, slots := 0, locals := 22 } : Room) (va_Pc [.ref q1, .int x2, .int x3, .int x4, .int x5, .int x6] (PX g sz [(q1, .inr (12, [w7, w8, w9, w10, w11, w12, w13, w14, w15, w16, w17, w18, w19, w20, w21, w22, w23, w24, w25, w26, w27, w28, w29, w30, w31, w32, w33, w34, w35, w36, w37, w38, w39, w40, w41, w42, w43]))])) (QI g [(q1, .inr (12, [w7, w8, w9, w10, w11, w12, w13, w14, w15, w16, w17, w18, w19, w20, w21, w22, w23, w24, w25, w26, w27, w28, w29, w30, w31, w32, w33, w34, w35, w36, w37, w38, w39, w40, w41, w42, w43]))] sz 0 (fun _ => [(q1, .inr (12, [w7, w8, w9, w10, w11, w12, .int 1, w14, w15, w16, w17, w18, w19, w20, w21, w22, w23, w24, w25, w26, w27, w28, w29, w30, w31, w32, w33, w34, w35, w36, w37, w38, w39, w40, w41, w42, w43]))])) 0 0 (va_A [(q1, .inr (12, [w7, w8, w9, w10, w11, w12, w13, w14, w15, w16, w17, w18, w19, w20, w21, w22, w23, w24, w25, w26, w27, w28, w29, w30, w31, w32, w33, w34, w35, w36, w37, w38, w39, w40, w41, w42, w43]))] sz) := by
  refine ofN (by decide) (Nat.le_of_ble_eq_true rfl) rfl ?_
  intro p e s m args below meth c A ls hAe hsz hx hb hml hr hlocks hin hown hE hP hD hA hS hl
  have hown : s.vm.findClass RX10 = some m.cls := hown
  refine lv_aload_n hx hb dX10_addClip_0 rfl (lv_at hl 0 rfl) ?_
  refine lv_iconst (v := 0) hx hb dX10_addClip_1 (by decide) ?_
  refine pf_RX10_86 (ws' := [(q1, .inr (12, [w7, w8, w9, w10, w11, w12, .int 0, w14, w15, w16, w17, w18, w19, w20, w21, w22, w23, w24, w25, w26, w27, w28, w29, w30, w31, w32, w33, w34, w35, w36, w37, w38, w39, w40, w41, w42, w43]))]) hx hb hown hE hP hD hS 0 rfl rfl rfl (Nat.le_of_ble_eq_true rfl) dX10_addClip_2 rfl (fun H locs hP hD hS => ?_)
  refine lv_iload_n hx hb dX10_addClip_5 rfl (lv_at hl 1 rfl) ?_
  refine lv_iconst (v := 0) hx hb dX10_addClip_6 (by decide) ?_
  refine lv_sipush (v := 9999) hx hb dX10_addClip_7 (by decide) ?_
  refine g0_i (rS (rest := []) hx hb hml hown hE hP hD (c642_X10_in l g x2 9999 h44 H.size) (kS_X10_in hE (e1431 hE) rfl rfl ⟨(Nat.le_of_ble_eq_true rfl), (Nat.le_of_ble_eq_true rfl)⟩) [] rfl (by decide) rfl hl.1 rfl (lv_room (Nat.le_of_ble_eq_true rfl)) dX10_addClip_10 ⟨(Nat.le_of_ble_eq_true rfl), (Nat.le_of_ble_eq_true rfl)⟩) hP hD hS hA (fun u9 H locs hP hS => ?_)
  refine lv_if_eq (tgt := 59) hx hb dX10_addClip_13 (by decide) (fun _ => ?_) (fun h => absurd (by decide) h)
  refine lv_iconst (v := 0) hx hb dX10_addClip_59 (by decide) ?_
  refine lv_istore (lv' := [(6, .int 0), (0, .ref q1), (1, .int x2), (2, .int x3), (3, .int x4), (4, .int x5), (5, .int x6)]) hx hb dX10_addClip_60 hl (by decide) rfl (fun ls hl => ?_)
  refine lv_iload hx hb dX10_addClip_62 (lv_at hl 0 rfl) ?_
  refine lv_if_ne (tgt := 73) hx hb dX10_addClip_64 (by decide) (fun h => absurd h (by decide)) (fun _ => ?_)
  refine lv_aload_n hx hb dX10_addClip_67 rfl (lv_at hl 1 rfl) ?_
  refine lv_iconst (v := 1) hx hb dX10_addClip_68 (by decide) ?_
  refine g_i (wr := []) (rV (rest := []) hx hb hml hown hE hP hD 0 rfl rfl (c1475_X10_refuse l g q1 w7 w8 w9 w10 w11 w12 (.int 0) w14 w15 w16 w17 w18 w19 w20 w21 w22 w23 w24 w25 w26 w27 w28 w29 w30 w31 w32 w33 w34 w35 w36 w37 w38 w39 w40 w41 w42 w43 H.size) (kV_X10_refuse hE (e1474 hE) rfl rfl ⟨(Nat.le_of_ble_eq_true rfl), (Nat.le_of_ble_eq_true rfl)⟩) [0] rfl (by decide) rfl hl.1 rfl (lv_room (Nat.le_of_ble_eq_true rfl)) dX10_addClip_69 ⟨(Nat.le_of_ble_eq_true rfl), (Nat.le_of_ble_eq_true rfl)⟩) hP hD hS hA [0] [] rfl rfl (by decide) (by decide) (fun u2 H locs hP hD hS => ?_)
  have hP : va_P g.1 vwCl [(q1, .inr (12, [w7, w8, w9, w10, w11, w12, .int 1, w14, w15, w16, w17, w18, w19, w20, w21, w22, w23, w24, w25, w26, w27, w28, w29, w30, w31, w32, w33, w34, w35, w36, w37, w38, w39, w40, w41, w42, w43]))] H := hP
  have hD : va_D A [(q1, .inr (12, [w7, w8, w9, w10, w11, w12, .int 1, w14, w15, w16, w17, w18, w19, w20, w21, w22, w23, w24, w25, w26, w27, w28, w29, w30, w31, w32, w33, w34, w35, w36, w37, w38, w39, w40, w41, w42, w43]))] := hD
  exact x_zret hx hb hr rfl rfl hlocks hP hD hS hAe hsz (Nat.le_of_ble_eq_true rfl) (Nat.le_of_ble_eq_true rfl) (fun _ => 0) [0] (by decide) rfl dX10_addClip_72

set_option maxHeartbeats 4000000 in
set_option maxRecDepth 100000 in
theorem c1477_X9_requireRange (l : Launch) (g : gG) (x1 : Int32) (h2 : (0 : Int32) ≤ x1) (h3 : x1 ≤ 9999) (sz : Nat) : Met l yX9_requireRange [Cond.code yX9_requireRange cX9_requireRange 3 none] ({ frames := 0, cells := 0, slots := 0, locals := 0 } : Room) (va_Pc [.int x1, .int 0, .int 9999] (PX g sz [])) (QV g [] sz (fun _ => [])) 0 0 (va_A [] sz) := by
  refine ofN (by decide) (Nat.le_of_ble_eq_true rfl) rfl ?_
  intro p e s m args below meth c A ls hAe hsz hx hb hml hr hlocks hin hown hE hP hD hA hS hl
  have hown : s.vm.findClass RX9 = some m.cls := hown
  refine lv_iload_n hx hb dX9_requireRange_0 rfl (lv_at hl 0 rfl) ?_
  refine lv_iload_n hx hb dX9_requireRange_1 rfl (lv_at hl 1 rfl) ?_
  refine lv_icmp_lt (tgt := 10) hx hb dX9_requireRange_2 (by decide) (fun h => absurd h (i_nlt h2)) (fun _ => ?_)
  refine lv_iload_n hx hb dX9_requireRange_5 rfl (lv_at hl 0 rfl) ?_
  refine lv_iload_n hx hb dX9_requireRange_6 rfl (lv_at hl 2 rfl) ?_
  refine lv_icmp_le (tgt := 21) hx hb dX9_requireRange_7 (by decide) (fun _ => ?_) (fun h => absurd h3 h)
  exact x_vret hx hb hr hlocks hP hD hS hAe hsz (Nat.le_of_ble_eq_true rfl) (Nat.le_of_ble_eq_true rfl) (fun _ => 0) [] (by decide) rfl dX9_requireRange_21

set_option maxHeartbeats 4000000 in
set_option maxRecDepth 100000 in
theorem c1478_X9_addClip (l : Launch) (g : gG) (hlx : l.stackTraces = false) (q1 : Nat) (x2 x3 x4 x5 x6 : Int32) (h7 : (0 : Int32) ≤ x2) (h8 : x2 ≤ 9999) (h9 : x3 < 0) (sz : Nat) : vx_Met l yX9_addClip [Cond.code yX9_addClip cX9_addClip 7 (some .int)] ({ frames := 7, cells := 1, slots := 6, locals := 122 } : Room) (va_Pc [.ref q1, .int x2, .int x3, .int x4, .int x5, .int x6] (PZ g sz [])) NI (XW g [] sz "java/lang/IllegalArgumentException" []) 1 6 (va_A [] sz) := by
  refine ofX (by decide) (Nat.le_of_ble_eq_true rfl) rfl ?_
  intro p e s m args below meth c A ls hAe hsz hx hb hml hr hlocks hin hown hE hP hD hA hS hl hex hz
  have hown : s.vm.findClass RX9 = some m.cls := hown
  refine lv_iload_n hx hb dX9_addClip_0 rfl (lv_at hl 1 rfl) ?_
  refine lv_iconst (v := 0) hx hb dX9_addClip_1 (by decide) ?_
  refine lv_sipush (v := 9999) hx hb dX9_addClip_2 (by decide) ?_
  refine g0_v (rS (rest := []) hx hb hml hown hE hP hD (c1477_X9_requireRange l g x2 h7 h8 s.heap.size) (kS_X9_requireRange hE (e636 hE) rfl rfl ⟨(Nat.le_of_ble_eq_true rfl), (Nat.le_of_ble_eq_true rfl)⟩) [] rfl (by decide) rfl hl.1 rfl (lv_room (Nat.le_of_ble_eq_true rfl)) dX9_addClip_5 ⟨(Nat.le_of_ble_eq_true rfl), (Nat.le_of_ble_eq_true rfl)⟩) hP hD hS hA (fun u9 H locs hP hS => ?_)
  refine lv_iload_n hx hb dX9_addClip_8 rfl (lv_at hl 2 rfl) ?_
  refine lv_iconst (v := 0) hx hb dX9_addClip_9 (by decide) ?_
  refine lv_bipush (v := 7) hx hb dX9_addClip_10 (by decide) ?_
  refine gx_v (wr := []) (rSx (rest := []) hx hb hml hown hE hP hD hS hA hz (c639_X9_requireRange l g hlx x3 7 h9 H.size) (kS_X9_requireRange hE (e636 hE) rfl rfl ⟨(Nat.le_of_ble_eq_true rfl), (Nat.le_of_ble_eq_true rfl)⟩) [] rfl (by decide) rfl hl.1 rfl (lv_room (Nat.le_of_ble_eq_true rfl)) dX9_addClip_12 ⟨(Nat.le_of_ble_eq_true rfl), (Nat.le_of_ble_eq_true rfl)⟩) hP hD hS hA [] [] rfl rfl (by decide) (by decide) (fun ce9 q9 H locs hP hD hS hq1 hq2 hq3 => ?_)
  exact x_out hex hlocks hq1 hq2 hq3 hP hD hS hAe hsz (Nat.le_of_ble_eq_true rfl) (Nat.le_of_ble_eq_true rfl) [] (by decide) rfl

set_option maxHeartbeats 4000000 in
set_option maxRecDepth 100000 in
theorem c1479_L_addClip (l : Launch) (g : gG) (hlx : l.stackTraces = false) (q1 q7 : Nat) (x2 x3 x4 x5 x6 : Int32) (w11 w12 w13 w14 w15 w16 w17 w18 w19 w20 w21 : Value) (h8 : (0 : Int32) ≤ x2) (h9 : x2 ≤ 9999) (h10 : x3 < 0) (sz : Nat) : Met l yL_addClip [Cond.codeWith yL_addClip cL_addClip 8 (some .int) [(0, 16, 19, 15), (0, 16, 23, 17)]] ({ frames := 8, cells := 1, slots := 6, locals := 148 } : Room) (va_Pc [.ref q1, .int x2, .int x3, .int x4, .int x5, .int x6, .ref q7] (PZ g sz [(q1, .inr (11, [w11, w12, w13, w14, w15, w16, w17, w18, w19, w20, w21]))])) (QI g [(q1, .inr (11, [w11, w12, w13, w14, w15, w16, w17, w18, w19, w20, w21]))] sz 1 (fun _ => [])) 1 6 (va_A [(q1, .inr (11, [w11, w12, w13, w14, w15, w16, w17, w18, w19, w20, w21]))] sz) := by
  refine ofH (by decide) (Nat.le_of_ble_eq_true rfl) rfl ?_
  intro p e s m args below meth c A ls hAe hsz hx hb hml hr hlocks hin hown hE hP hD hA hS hl htb hz
  have hown : s.vm.findClass RL = some m.cls := hown
  refine lv_aload hx hb dL_addClip_0 (lv_at hl 6 rfl) ?_
  refine lv_iconst (v := 0) hx hb dL_addClip_2 (by decide) ?_
  refine lv_aload_n hx hb dL_addClip_3 rfl (lv_at hl 0 rfl) ?_
  refine lv_iload_n hx hb dL_addClip_4 rfl (lv_at hl 1 rfl) ?_
  refine lv_iload_n hx hb dL_addClip_5 rfl (lv_at hl 2 rfl) ?_
  refine lv_iload_n hx hb dL_addClip_6 rfl (lv_at hl 3 rfl) ?_
  refine lv_iload hx hb dL_addClip_7 (lv_at hl 4 rfl) ?_
  refine lv_iload hx hb dL_addClip_9 (lv_at hl 5 rfl) ?_
  refine gx_i (wr := [(q1, .inr (11, [w11, w12, w13, w14, w15, w16, w17, w18, w19, w20, w21]))]) (rVx (rest := [.int 0, .ref q7]) hx hb hml hown hE hP hD hS hA hz 0 rfl rfl (c1478_X9_addClip l g hlx q1 x2 x3 x4 x5 x6 h8 h9 h10 s.heap.size) (kV_X9_addClip hE (e803 hE) rfl rfl ⟨(Nat.le_of_ble_eq_true rfl), (Nat.le_of_ble_eq_true rfl)⟩) [] rfl (by decide) rfl hl.1 rfl (lv_room (Nat.le_of_ble_eq_true rfl)) dL_addClip_11 ⟨(Nat.le_of_ble_eq_true rfl), (Nat.le_of_ble_eq_true rfl)⟩) hP hD hS hA [] [0] rfl rfl (by decide) (by decide) (fun ce9 q9 H locs hP hD hS hq1 hq2 hq3 => ?_)
  have hP : va_P g.1 vwCl [(q1, .inr (11, [w11, w12, w13, w14, w15, w16, w17, w18, w19, w20, w21]))] H := hP
  have hD : va_D A [(q1, .inr (11, [w11, w12, w13, w14, w15, w16, w17, w18, w19, w20, w21]))] := hD
  refine x_catch (name := "java/lang/IllegalArgumentException") (hh := [(0, 16, 19, 15), (0, 16, 23, 17)]) (tgt := 19) hown htb [] ⟨0, 16, 19, 15⟩ [⟨0, 16, 23, 17⟩] rfl (fun _ h => nomatch h) rfl (by decide) (e611 hE) (e641 hE) hq1 hq2 hq3 rfl ?_
  refine lv_astore (lv' := [(7, .ref q9), (0, .ref q1), (1, .int x2), (2, .int x3), (3, .int x4), (4, .int x5), (5, .int x6), (6, .ref q7)]) hx hb dL_addClip_19 hl (by decide) rfl (fun ls hl => ?_)
  refine lv_iconst (v := 1) hx hb dL_addClip_21 (by decide) ?_
  exact x_zret hx hb hr rfl rfl hlocks hP hD hS hAe hsz (Nat.le_of_ble_eq_true rfl) (Nat.le_of_ble_eq_true rfl) (fun _ => 0) [] (by decide) rfl dL_addClip_22

set_option maxHeartbeats 4000000 in
set_option maxRecDepth 100000 in
theorem c1480_X10_in (l : Launch) (g : gG) (x1 : Int32) (h2 : (0 : Int32) ≤ x1) (h3 : x1 ≤ 9999) (sz : Nat) : Met l yX10_in [Cond.code yX10_in cX10_in 3 (some .boolean)] ({ frames := 0, cells := 0, slots := 0, locals := 0 } : Room) (va_Pc [.int x1, .int 0, .int 9999] (PX g sz [])) (QI g [] sz 1 (fun _ => [])) 0 0 (va_A [] sz) := by
  refine ofN (by decide) (Nat.le_of_ble_eq_true rfl) rfl ?_
  intro p e s m args below meth c A ls hAe hsz hx hb hml hr hlocks hin hown hE hP hD hA hS hl
  have hown : s.vm.findClass RX10 = some m.cls := hown
  refine lv_iload_n hx hb dX10_in_0 rfl (lv_at hl 0 rfl) ?_
  refine lv_iload_n hx hb dX10_in_1 rfl (lv_at hl 1 rfl) ?_
  refine lv_icmp_lt (tgt := 14) hx hb dX10_in_2 (by decide) (fun h => absurd h (i_nlt h2)) (fun _ => ?_)
  refine lv_iload_n hx hb dX10_in_5 rfl (lv_at hl 0 rfl) ?_
  refine lv_iload_n hx hb dX10_in_6 rfl (lv_at hl 2 rfl) ?_
  refine lv_icmp_gt (tgt := 14) hx hb dX10_in_7 (by decide) (fun h => absurd h (i_nlt h3)) (fun _ => ?_)
  refine lv_iconst (v := 1) hx hb dX10_in_10 (by decide) ?_
  refine lv_goto (tgt := 15) hx hb dX10_in_11 (by decide) ?_
  exact x_zret hx hb hr rfl rfl hlocks hP hD hS hAe hsz (Nat.le_of_ble_eq_true rfl) (Nat.le_of_ble_eq_true rfl) (fun _ => 0) [] (by decide) rfl dX10_in_15

set_option maxHeartbeats 4000000 in
set_option maxRecDepth 100000 in
theorem c1481_X10_addClip (l : Launch) (g : gG) (q1 : Nat) (x2 x3 x4 x5 x6 : Int32) (w7 w8 w9 w10 w11 w12 w13 w14 w15 w16 w17 w18 w19 w20 w21 w22 w23 w24 w25 w26 w27 w28 w29 w30 w31 w32 w33 w34 w35 w36 w37 w38 w39 w40 w41 w42 w43 : Value) (h44 : (0 : Int32) ≤ x2) (h45 : x2 ≤ 9999) (h46 : x3 < 0) (sz : Nat) : Met l yX10_addClip [Cond.code yX10_addClip cX10_addClip 8 (some .int)] ({ frames := 2, cells := 0, slots := 0, locals := 42 } : Room) (va_Pc [.ref q1, .int x2, .int x3, .int x4, .int x5, .int x6] (PX g sz [(q1, .inr (12, [w7, w8, w9, w10, w11, w12, w13, w14, w15, w16, w17, w18, w19, w20, w21, w22, w23, w24, w25, w26, w27, w28, w29, w30, w31, w32, w33, w34, w35, w36, w37, w38, w39, w40, w41, w42, w43]))])) (QI g [(q1, .inr (12, [w7, w8, w9, w10, w11, w12, w13, w14, w15, w16, w17, w18, w19, w20, w21, w22, w23, w24, w25, w26, w27, w28, w29, w30, w31, w32, w33, w34, w35, w36, w37, w38, w39, w40, w41, w42, w43]))] sz 0 (fun _ => [(q1, .inr (12, [w7, w8, w9, w10, w11, w12, .int 1, w14, w15, w16, w17, w18, w19, w20, w21, w22, w23, w24, w25, w26, w27, w28, w29, w30, w31, w32, w33, w34, w35, w36, w37, w38, w39, w40, w41, w42, w43]))])) 0 0 (va_A [(q1, .inr (12, [w7, w8, w9, w10, w11, w12, w13, w14, w15, w16, w17, w18, w19, w20, w21, w22, w23, w24, w25, w26, w27, w28, w29, w30, w31, w32, w33, w34, w35, w36, w37, w38, w39, w40, w41, w42, w43]))] sz) := by
  refine ofN (by decide) (Nat.le_of_ble_eq_true rfl) rfl ?_
  intro p e s m args below meth c A ls hAe hsz hx hb hml hr hlocks hin hown hE hP hD hA hS hl
  have hown : s.vm.findClass RX10 = some m.cls := hown
  refine lv_aload_n hx hb dX10_addClip_0 rfl (lv_at hl 0 rfl) ?_
  refine lv_iconst (v := 0) hx hb dX10_addClip_1 (by decide) ?_
  refine pf_RX10_86 (ws' := [(q1, .inr (12, [w7, w8, w9, w10, w11, w12, .int 0, w14, w15, w16, w17, w18, w19, w20, w21, w22, w23, w24, w25, w26, w27, w28, w29, w30, w31, w32, w33, w34, w35, w36, w37, w38, w39, w40, w41, w42, w43]))]) hx hb hown hE hP hD hS 0 rfl rfl rfl (Nat.le_of_ble_eq_true rfl) dX10_addClip_2 rfl (fun H locs hP hD hS => ?_)
  refine lv_iload_n hx hb dX10_addClip_5 rfl (lv_at hl 1 rfl) ?_
  refine lv_iconst (v := 0) hx hb dX10_addClip_6 (by decide) ?_
  refine lv_sipush (v := 9999) hx hb dX10_addClip_7 (by decide) ?_
  refine g0_i (rS (rest := []) hx hb hml hown hE hP hD (c1480_X10_in l g x2 h44 h45 H.size) (kS_X10_in hE (e1431 hE) rfl rfl ⟨(Nat.le_of_ble_eq_true rfl), (Nat.le_of_ble_eq_true rfl)⟩) [] rfl (by decide) rfl hl.1 rfl (lv_room (Nat.le_of_ble_eq_true rfl)) dX10_addClip_10 ⟨(Nat.le_of_ble_eq_true rfl), (Nat.le_of_ble_eq_true rfl)⟩) hP hD hS hA (fun u9 H locs hP hS => ?_)
  refine lv_if_eq (tgt := 59) hx hb dX10_addClip_13 (by decide) (fun h => absurd h (by decide)) (fun _ => ?_)
  refine lv_iload_n hx hb dX10_addClip_16 rfl (lv_at hl 2 rfl) ?_
  refine g0_i (rS (rest := []) hx hb hml hown hE hP hD (c85_X10_isPattern l g x3 h46 H.size) (kS_X10_isPattern hE (e1428 hE) rfl rfl ⟨(Nat.le_of_ble_eq_true rfl), (Nat.le_of_ble_eq_true rfl)⟩) [] rfl (by decide) rfl hl.1 rfl (lv_room (Nat.le_of_ble_eq_true rfl)) dX10_addClip_17 ⟨(Nat.le_of_ble_eq_true rfl), (Nat.le_of_ble_eq_true rfl)⟩) hP hD hS hA (fun u9 H locs hP hS => ?_)
  refine lv_if_eq (tgt := 59) hx hb dX10_addClip_20 (by decide) (fun _ => ?_) (fun h => absurd (by decide) h)
  refine lv_iconst (v := 0) hx hb dX10_addClip_59 (by decide) ?_
  refine lv_istore (lv' := [(6, .int 0), (0, .ref q1), (1, .int x2), (2, .int x3), (3, .int x4), (4, .int x5), (5, .int x6)]) hx hb dX10_addClip_60 hl (by decide) rfl (fun ls hl => ?_)
  refine lv_iload hx hb dX10_addClip_62 (lv_at hl 0 rfl) ?_
  refine lv_if_ne (tgt := 73) hx hb dX10_addClip_64 (by decide) (fun h => absurd h (by decide)) (fun _ => ?_)
  refine lv_aload_n hx hb dX10_addClip_67 rfl (lv_at hl 1 rfl) ?_
  refine lv_iconst (v := 1) hx hb dX10_addClip_68 (by decide) ?_
  refine g_i (wr := []) (rV (rest := []) hx hb hml hown hE hP hD 0 rfl rfl (c1475_X10_refuse l g q1 w7 w8 w9 w10 w11 w12 (.int 0) w14 w15 w16 w17 w18 w19 w20 w21 w22 w23 w24 w25 w26 w27 w28 w29 w30 w31 w32 w33 w34 w35 w36 w37 w38 w39 w40 w41 w42 w43 H.size) (kV_X10_refuse hE (e1474 hE) rfl rfl ⟨(Nat.le_of_ble_eq_true rfl), (Nat.le_of_ble_eq_true rfl)⟩) [0] rfl (by decide) rfl hl.1 rfl (lv_room (Nat.le_of_ble_eq_true rfl)) dX10_addClip_69 ⟨(Nat.le_of_ble_eq_true rfl), (Nat.le_of_ble_eq_true rfl)⟩) hP hD hS hA [0] [] rfl rfl (by decide) (by decide) (fun u3 H locs hP hD hS => ?_)
  have hP : va_P g.1 vwCl [(q1, .inr (12, [w7, w8, w9, w10, w11, w12, .int 1, w14, w15, w16, w17, w18, w19, w20, w21, w22, w23, w24, w25, w26, w27, w28, w29, w30, w31, w32, w33, w34, w35, w36, w37, w38, w39, w40, w41, w42, w43]))] H := hP
  have hD : va_D A [(q1, .inr (12, [w7, w8, w9, w10, w11, w12, .int 1, w14, w15, w16, w17, w18, w19, w20, w21, w22, w23, w24, w25, w26, w27, w28, w29, w30, w31, w32, w33, w34, w35, w36, w37, w38, w39, w40, w41, w42, w43]))] := hD
  exact x_zret hx hb hr rfl rfl hlocks hP hD hS hAe hsz (Nat.le_of_ble_eq_true rfl) (Nat.le_of_ble_eq_true rfl) (fun _ => 0) [0] (by decide) rfl dX10_addClip_72

set_option maxHeartbeats 4000000 in
set_option maxRecDepth 100000 in
theorem c1482_X9_requireRange (l : Launch) (g : gG) (x1 : Int32) (h2 : (0 : Int32) ≤ x1) (h3 : x1 ≤ 7) (sz : Nat) : Met l yX9_requireRange [Cond.code yX9_requireRange cX9_requireRange 3 none] ({ frames := 0, cells := 0, slots := 0, locals := 0 } : Room) (va_Pc [.int x1, .int 0, .int 7] (PX g sz [])) (QV g [] sz (fun _ => [])) 0 0 (va_A [] sz) := by
  refine ofN (by decide) (Nat.le_of_ble_eq_true rfl) rfl ?_
  intro p e s m args below meth c A ls hAe hsz hx hb hml hr hlocks hin hown hE hP hD hA hS hl
  have hown : s.vm.findClass RX9 = some m.cls := hown
  refine lv_iload_n hx hb dX9_requireRange_0 rfl (lv_at hl 0 rfl) ?_
  refine lv_iload_n hx hb dX9_requireRange_1 rfl (lv_at hl 1 rfl) ?_
  refine lv_icmp_lt (tgt := 10) hx hb dX9_requireRange_2 (by decide) (fun h => absurd h (i_nlt h2)) (fun _ => ?_)
  refine lv_iload_n hx hb dX9_requireRange_5 rfl (lv_at hl 0 rfl) ?_
  refine lv_iload_n hx hb dX9_requireRange_6 rfl (lv_at hl 2 rfl) ?_
  refine lv_icmp_le (tgt := 21) hx hb dX9_requireRange_7 (by decide) (fun _ => ?_) (fun h => absurd h3 h)
  exact x_vret hx hb hr hlocks hP hD hS hAe hsz (Nat.le_of_ble_eq_true rfl) (Nat.le_of_ble_eq_true rfl) (fun _ => 0) [] (by decide) rfl dX9_requireRange_21

set_option maxHeartbeats 4000000 in
set_option maxRecDepth 100000 in
theorem c1483_X9_addClip (l : Launch) (g : gG) (hlx : l.stackTraces = false) (q1 : Nat) (x2 x3 x4 x5 x6 : Int32) (h7 : (0 : Int32) ≤ x2) (h8 : x2 ≤ 9999) (h9 : (0 : Int32) ≤ x3) (h10 : x3 ≤ 7) (h11 : x4 < 1) (sz : Nat) : vx_Met l yX9_addClip [Cond.code yX9_addClip cX9_addClip 7 (some .int)] ({ frames := 7, cells := 1, slots := 6, locals := 122 } : Room) (va_Pc [.ref q1, .int x2, .int x3, .int x4, .int x5, .int x6] (PZ g sz [])) NI (XW g [] sz "java/lang/IllegalArgumentException" []) 1 6 (va_A [] sz) := by
  refine ofX (by decide) (Nat.le_of_ble_eq_true rfl) rfl ?_
  intro p e s m args below meth c A ls hAe hsz hx hb hml hr hlocks hin hown hE hP hD hA hS hl hex hz
  have hown : s.vm.findClass RX9 = some m.cls := hown
  refine lv_iload_n hx hb dX9_addClip_0 rfl (lv_at hl 1 rfl) ?_
  refine lv_iconst (v := 0) hx hb dX9_addClip_1 (by decide) ?_
  refine lv_sipush (v := 9999) hx hb dX9_addClip_2 (by decide) ?_
  refine g0_v (rS (rest := []) hx hb hml hown hE hP hD (c1477_X9_requireRange l g x2 h7 h8 s.heap.size) (kS_X9_requireRange hE (e636 hE) rfl rfl ⟨(Nat.le_of_ble_eq_true rfl), (Nat.le_of_ble_eq_true rfl)⟩) [] rfl (by decide) rfl hl.1 rfl (lv_room (Nat.le_of_ble_eq_true rfl)) dX9_addClip_5 ⟨(Nat.le_of_ble_eq_true rfl), (Nat.le_of_ble_eq_true rfl)⟩) hP hD hS hA (fun u9 H locs hP hS => ?_)
  refine lv_iload_n hx hb dX9_addClip_8 rfl (lv_at hl 2 rfl) ?_
  refine lv_iconst (v := 0) hx hb dX9_addClip_9 (by decide) ?_
  refine lv_bipush (v := 7) hx hb dX9_addClip_10 (by decide) ?_
  refine g0_v (rS (rest := []) hx hb hml hown hE hP hD (c1482_X9_requireRange l g x3 h9 h10 H.size) (kS_X9_requireRange hE (e636 hE) rfl rfl ⟨(Nat.le_of_ble_eq_true rfl), (Nat.le_of_ble_eq_true rfl)⟩) [] rfl (by decide) rfl hl.1 rfl (lv_room (Nat.le_of_ble_eq_true rfl)) dX9_addClip_12 ⟨(Nat.le_of_ble_eq_true rfl), (Nat.le_of_ble_eq_true rfl)⟩) hP hD hS hA (fun u9 H locs hP hS => ?_)
  refine lv_iload_n hx hb dX9_addClip_15 rfl (lv_at hl 3 rfl) ?_
  refine lv_iconst (v := 1) hx hb dX9_addClip_16 (by decide) ?_
  refine lv_bipush (v := 9) hx hb dX9_addClip_17 (by decide) ?_
  refine gx_v (wr := []) (rSx (rest := []) hx hb hml hown hE hP hD hS hA hz (c109_X9_requireRange l g hlx x4 h11 H.size) (kS_X9_requireRange hE (e636 hE) rfl rfl ⟨(Nat.le_of_ble_eq_true rfl), (Nat.le_of_ble_eq_true rfl)⟩) [] rfl (by decide) rfl hl.1 rfl (lv_room (Nat.le_of_ble_eq_true rfl)) dX9_addClip_19 ⟨(Nat.le_of_ble_eq_true rfl), (Nat.le_of_ble_eq_true rfl)⟩) hP hD hS hA [] [] rfl rfl (by decide) (by decide) (fun ce9 q9 H locs hP hD hS hq1 hq2 hq3 => ?_)
  exact x_out hex hlocks hq1 hq2 hq3 hP hD hS hAe hsz (Nat.le_of_ble_eq_true rfl) (Nat.le_of_ble_eq_true rfl) [] (by decide) rfl

set_option maxHeartbeats 4000000 in
set_option maxRecDepth 100000 in
theorem c1484_L_addClip (l : Launch) (g : gG) (hlx : l.stackTraces = false) (q1 q7 : Nat) (x2 x3 x4 x5 x6 : Int32) (w13 w14 w15 w16 w17 w18 w19 w20 w21 w22 w23 : Value) (h8 : (0 : Int32) ≤ x2) (h9 : x2 ≤ 9999) (h10 : (0 : Int32) ≤ x3) (h11 : x3 ≤ 7) (h12 : x4 < 1) (sz : Nat) : Met l yL_addClip [Cond.codeWith yL_addClip cL_addClip 8 (some .int) [(0, 16, 19, 15), (0, 16, 23, 17)]] ({ frames := 8, cells := 1, slots := 6, locals := 148 } : Room) (va_Pc [.ref q1, .int x2, .int x3, .int x4, .int x5, .int x6, .ref q7] (PZ g sz [(q1, .inr (11, [w13, w14, w15, w16, w17, w18, w19, w20, w21, w22, w23]))])) (QI g [(q1, .inr (11, [w13, w14, w15, w16, w17, w18, w19, w20, w21, w22, w23]))] sz 1 (fun _ => [])) 1 6 (va_A [(q1, .inr (11, [w13, w14, w15, w16, w17, w18, w19, w20, w21, w22, w23]))] sz) := by
  refine ofH (by decide) (Nat.le_of_ble_eq_true rfl) rfl ?_
  intro p e s m args below meth c A ls hAe hsz hx hb hml hr hlocks hin hown hE hP hD hA hS hl htb hz
  have hown : s.vm.findClass RL = some m.cls := hown
  refine lv_aload hx hb dL_addClip_0 (lv_at hl 6 rfl) ?_
  refine lv_iconst (v := 0) hx hb dL_addClip_2 (by decide) ?_
  refine lv_aload_n hx hb dL_addClip_3 rfl (lv_at hl 0 rfl) ?_
  refine lv_iload_n hx hb dL_addClip_4 rfl (lv_at hl 1 rfl) ?_
  refine lv_iload_n hx hb dL_addClip_5 rfl (lv_at hl 2 rfl) ?_
  refine lv_iload_n hx hb dL_addClip_6 rfl (lv_at hl 3 rfl) ?_
  refine lv_iload hx hb dL_addClip_7 (lv_at hl 4 rfl) ?_
  refine lv_iload hx hb dL_addClip_9 (lv_at hl 5 rfl) ?_
  refine gx_i (wr := [(q1, .inr (11, [w13, w14, w15, w16, w17, w18, w19, w20, w21, w22, w23]))]) (rVx (rest := [.int 0, .ref q7]) hx hb hml hown hE hP hD hS hA hz 0 rfl rfl (c1483_X9_addClip l g hlx q1 x2 x3 x4 x5 x6 h8 h9 h10 h11 h12 s.heap.size) (kV_X9_addClip hE (e803 hE) rfl rfl ⟨(Nat.le_of_ble_eq_true rfl), (Nat.le_of_ble_eq_true rfl)⟩) [] rfl (by decide) rfl hl.1 rfl (lv_room (Nat.le_of_ble_eq_true rfl)) dL_addClip_11 ⟨(Nat.le_of_ble_eq_true rfl), (Nat.le_of_ble_eq_true rfl)⟩) hP hD hS hA [] [0] rfl rfl (by decide) (by decide) (fun ce9 q9 H locs hP hD hS hq1 hq2 hq3 => ?_)
  have hP : va_P g.1 vwCl [(q1, .inr (11, [w13, w14, w15, w16, w17, w18, w19, w20, w21, w22, w23]))] H := hP
  have hD : va_D A [(q1, .inr (11, [w13, w14, w15, w16, w17, w18, w19, w20, w21, w22, w23]))] := hD
  refine x_catch (name := "java/lang/IllegalArgumentException") (hh := [(0, 16, 19, 15), (0, 16, 23, 17)]) (tgt := 19) hown htb [] ⟨0, 16, 19, 15⟩ [⟨0, 16, 23, 17⟩] rfl (fun _ h => nomatch h) rfl (by decide) (e611 hE) (e641 hE) hq1 hq2 hq3 rfl ?_
  refine lv_astore (lv' := [(7, .ref q9), (0, .ref q1), (1, .int x2), (2, .int x3), (3, .int x4), (4, .int x5), (5, .int x6), (6, .ref q7)]) hx hb dL_addClip_19 hl (by decide) rfl (fun ls hl => ?_)
  refine lv_iconst (v := 1) hx hb dL_addClip_21 (by decide) ?_
  exact x_zret hx hb hr rfl rfl hlocks hP hD hS hAe hsz (Nat.le_of_ble_eq_true rfl) (Nat.le_of_ble_eq_true rfl) (fun _ => 0) [] (by decide) rfl dL_addClip_22

set_option maxHeartbeats 4000000 in
set_option maxRecDepth 100000 in
theorem c1485_X10_addClip (l : Launch) (g : gG) (q1 : Nat) (x2 x3 x4 x5 x6 : Int32) (w7 w8 w9 w10 w11 w12 w13 w14 w15 w16 w17 w18 w19 w20 w21 w22 w23 w24 w25 w26 w27 w28 w29 w30 w31 w32 w33 w34 w35 w36 w37 w38 w39 w40 w41 w42 w43 : Value) (h44 : (0 : Int32) ≤ x2) (h45 : x2 ≤ 9999) (h46 : (0 : Int32) ≤ x3) (h47 : x3 ≤ 7) (h48 : x4 < 1) (sz : Nat) : Met l yX10_addClip [Cond.code yX10_addClip cX10_addClip 8 (some .int)] ({ frames := 2, cells := 0, slots := 0, locals := 42 } : Room) (va_Pc [.ref q1, .int x2, .int x3, .int x4, .int x5, .int x6] (PX g sz [(q1, .inr (12, [w7, w8, w9, w10, w11, w12, w13, w14, w15, w16, w17, w18, w19, w20, w21, w22, w23, w24, w25, w26, w27, w28, w29, w30, w31, w32, w33, w34, w35, w36, w37, w38, w39, w40, w41, w42, w43]))])) (QI g [(q1, .inr (12, [w7, w8, w9, w10, w11, w12, w13, w14, w15, w16, w17, w18, w19, w20, w21, w22, w23, w24, w25, w26, w27, w28, w29, w30, w31, w32, w33, w34, w35, w36, w37, w38, w39, w40, w41, w42, w43]))] sz 0 (fun _ => [(q1, .inr (12, [w7, w8, w9, w10, w11, w12, .int 1, w14, w15, w16, w17, w18, w19, w20, w21, w22, w23, w24, w25, w26, w27, w28, w29, w30, w31, w32, w33, w34, w35, w36, w37, w38, w39, w40, w41, w42, w43]))])) 0 0 (va_A [(q1, .inr (12, [w7, w8, w9, w10, w11, w12, w13, w14, w15, w16, w17, w18, w19, w20, w21, w22, w23, w24, w25, w26, w27, w28, w29, w30, w31, w32, w33, w34, w35, w36, w37, w38, w39, w40, w41, w42, w43]))] sz) := by
  refine ofN (by decide) (Nat.le_of_ble_eq_true rfl) rfl ?_
  intro p e s m args below meth c A ls hAe hsz hx hb hml hr hlocks hin hown hE hP hD hA hS hl
  have hown : s.vm.findClass RX10 = some m.cls := hown
  refine lv_aload_n hx hb dX10_addClip_0 rfl (lv_at hl 0 rfl) ?_
  refine lv_iconst (v := 0) hx hb dX10_addClip_1 (by decide) ?_
  refine pf_RX10_86 (ws' := [(q1, .inr (12, [w7, w8, w9, w10, w11, w12, .int 0, w14, w15, w16, w17, w18, w19, w20, w21, w22, w23, w24, w25, w26, w27, w28, w29, w30, w31, w32, w33, w34, w35, w36, w37, w38, w39, w40, w41, w42, w43]))]) hx hb hown hE hP hD hS 0 rfl rfl rfl (Nat.le_of_ble_eq_true rfl) dX10_addClip_2 rfl (fun H locs hP hD hS => ?_)
  refine lv_iload_n hx hb dX10_addClip_5 rfl (lv_at hl 1 rfl) ?_
  refine lv_iconst (v := 0) hx hb dX10_addClip_6 (by decide) ?_
  refine lv_sipush (v := 9999) hx hb dX10_addClip_7 (by decide) ?_
  refine g0_i (rS (rest := []) hx hb hml hown hE hP hD (c1480_X10_in l g x2 h44 h45 H.size) (kS_X10_in hE (e1431 hE) rfl rfl ⟨(Nat.le_of_ble_eq_true rfl), (Nat.le_of_ble_eq_true rfl)⟩) [] rfl (by decide) rfl hl.1 rfl (lv_room (Nat.le_of_ble_eq_true rfl)) dX10_addClip_10 ⟨(Nat.le_of_ble_eq_true rfl), (Nat.le_of_ble_eq_true rfl)⟩) hP hD hS hA (fun u9 H locs hP hS => ?_)
  refine lv_if_eq (tgt := 59) hx hb dX10_addClip_13 (by decide) (fun h => absurd h (by decide)) (fun _ => ?_)
  refine lv_iload_n hx hb dX10_addClip_16 rfl (lv_at hl 2 rfl) ?_
  refine g0_i (rS (rest := []) hx hb hml hown hE hP hD (c94_X10_isPattern l g x3 h46 h47 H.size) (kS_X10_isPattern hE (e1428 hE) rfl rfl ⟨(Nat.le_of_ble_eq_true rfl), (Nat.le_of_ble_eq_true rfl)⟩) [] rfl (by decide) rfl hl.1 rfl (lv_room (Nat.le_of_ble_eq_true rfl)) dX10_addClip_17 ⟨(Nat.le_of_ble_eq_true rfl), (Nat.le_of_ble_eq_true rfl)⟩) hP hD hS hA (fun u9 H locs hP hS => ?_)
  refine lv_if_eq (tgt := 59) hx hb dX10_addClip_20 (by decide) (fun h => absurd h (by decide)) (fun _ => ?_)
  refine lv_iload_n hx hb dX10_addClip_23 rfl (lv_at hl 3 rfl) ?_
  refine lv_iconst (v := 1) hx hb dX10_addClip_24 (by decide) ?_
  refine lv_bipush (v := 9) hx hb dX10_addClip_25 (by decide) ?_
  refine g0_i (rS (rest := []) hx hb hml hown hE hP hD (c113_X10_in l g x4 h48 H.size) (kS_X10_in hE (e1431 hE) rfl rfl ⟨(Nat.le_of_ble_eq_true rfl), (Nat.le_of_ble_eq_true rfl)⟩) [] rfl (by decide) rfl hl.1 rfl (lv_room (Nat.le_of_ble_eq_true rfl)) dX10_addClip_27 ⟨(Nat.le_of_ble_eq_true rfl), (Nat.le_of_ble_eq_true rfl)⟩) hP hD hS hA (fun u9 H locs hP hS => ?_)
  refine lv_if_eq (tgt := 59) hx hb dX10_addClip_30 (by decide) (fun _ => ?_) (fun h => absurd (by decide) h)
  refine lv_iconst (v := 0) hx hb dX10_addClip_59 (by decide) ?_
  refine lv_istore (lv' := [(6, .int 0), (0, .ref q1), (1, .int x2), (2, .int x3), (3, .int x4), (4, .int x5), (5, .int x6)]) hx hb dX10_addClip_60 hl (by decide) rfl (fun ls hl => ?_)
  refine lv_iload hx hb dX10_addClip_62 (lv_at hl 0 rfl) ?_
  refine lv_if_ne (tgt := 73) hx hb dX10_addClip_64 (by decide) (fun h => absurd h (by decide)) (fun _ => ?_)
  refine lv_aload_n hx hb dX10_addClip_67 rfl (lv_at hl 1 rfl) ?_
  refine lv_iconst (v := 1) hx hb dX10_addClip_68 (by decide) ?_
  refine g_i (wr := []) (rV (rest := []) hx hb hml hown hE hP hD 0 rfl rfl (c1475_X10_refuse l g q1 w7 w8 w9 w10 w11 w12 (.int 0) w14 w15 w16 w17 w18 w19 w20 w21 w22 w23 w24 w25 w26 w27 w28 w29 w30 w31 w32 w33 w34 w35 w36 w37 w38 w39 w40 w41 w42 w43 H.size) (kV_X10_refuse hE (e1474 hE) rfl rfl ⟨(Nat.le_of_ble_eq_true rfl), (Nat.le_of_ble_eq_true rfl)⟩) [0] rfl (by decide) rfl hl.1 rfl (lv_room (Nat.le_of_ble_eq_true rfl)) dX10_addClip_69 ⟨(Nat.le_of_ble_eq_true rfl), (Nat.le_of_ble_eq_true rfl)⟩) hP hD hS hA [0] [] rfl rfl (by decide) (by decide) (fun u4 H locs hP hD hS => ?_)
  have hP : va_P g.1 vwCl [(q1, .inr (12, [w7, w8, w9, w10, w11, w12, .int 1, w14, w15, w16, w17, w18, w19, w20, w21, w22, w23, w24, w25, w26, w27, w28, w29, w30, w31, w32, w33, w34, w35, w36, w37, w38, w39, w40, w41, w42, w43]))] H := hP
  have hD : va_D A [(q1, .inr (12, [w7, w8, w9, w10, w11, w12, .int 1, w14, w15, w16, w17, w18, w19, w20, w21, w22, w23, w24, w25, w26, w27, w28, w29, w30, w31, w32, w33, w34, w35, w36, w37, w38, w39, w40, w41, w42, w43]))] := hD
  exact x_zret hx hb hr rfl rfl hlocks hP hD hS hAe hsz (Nat.le_of_ble_eq_true rfl) (Nat.le_of_ble_eq_true rfl) (fun _ => 0) [0] (by decide) rfl dX10_addClip_72

set_option maxHeartbeats 4000000 in
set_option maxRecDepth 100000 in
theorem c1486_X9_requireRange (l : Launch) (g : gG) (hlx : l.stackTraces = false) (x1 : Int32) (h2 : x1 < (-50)) (sz : Nat) : vx_Met l yX9_requireRange [Cond.code yX9_requireRange cX9_requireRange 3 none] ({ frames := 6, cells := 1, slots := 6, locals := 100 } : Room) (va_Pc [.int x1, .int (-50), .int 50] (PZ g sz [])) NV (XW g [] sz "java/lang/IllegalArgumentException" []) 1 6 (va_A [] sz) := by
  refine ofX (by decide) (Nat.le_of_ble_eq_true rfl) rfl ?_
  intro p e s m args below meth c A ls hAe hsz hx hb hml hr hlocks hin hown hE hP hD hA hS hl hex hz
  have hown : s.vm.findClass RX9 = some m.cls := hown
  refine lv_iload_n hx hb dX9_requireRange_0 rfl (lv_at hl 0 rfl) ?_
  refine lv_iload_n hx hb dX9_requireRange_1 rfl (lv_at hl 1 rfl) ?_
  refine lv_icmp_lt (tgt := 10) hx hb dX9_requireRange_2 (by decide) (fun _ => ?_) (fun h => absurd h2 h)
  exact x_throwW (text := "a number is out of range") (names := ["java/lang/RuntimeException", "java/lang/Exception"]) hx hb hlx hown hE (by decide) (by decide) (e639 hE) (e20 hE) (by decide +kernel) (th_215 hE) tg_215_211 hz (by rw [hml]; exact hl.1) dX9_requireRange_10 dX9_requireRange_13 dX9_requireRange_14 dX9_requireRange_17 dX9_requireRange_20 hex (Nat.le_of_ble_eq_true rfl) (Nat.le_of_ble_eq_true rfl) (Nat.le_of_ble_eq_true rfl) (Nat.le_of_ble_eq_true rfl) hlocks hP hD hS hAe hsz (Nat.le_of_ble_eq_true rfl) (Nat.le_of_ble_eq_true rfl) [] (by decide) rfl

set_option maxHeartbeats 4000000 in
set_option maxRecDepth 100000 in
theorem c1487_X9_addClip (l : Launch) (g : gG) (hlx : l.stackTraces = false) (q1 : Nat) (x2 x3 x4 x5 x6 : Int32) (h7 : (0 : Int32) ≤ x2) (h8 : x2 ≤ 9999) (h9 : (0 : Int32) ≤ x3) (h10 : x3 ≤ 7) (h11 : (1 : Int32) ≤ x4) (h12 : x4 ≤ 9) (h13 : x5 < (-50)) (sz : Nat) : vx_Met l yX9_addClip [Cond.code yX9_addClip cX9_addClip 7 (some .int)] ({ frames := 7, cells := 1, slots := 6, locals := 122 } : Room) (va_Pc [.ref q1, .int x2, .int x3, .int x4, .int x5, .int x6] (PZ g sz [])) NI (XW g [] sz "java/lang/IllegalArgumentException" []) 1 6 (va_A [] sz) := by
  refine ofX (by decide) (Nat.le_of_ble_eq_true rfl) rfl ?_
  intro p e s m args below meth c A ls hAe hsz hx hb hml hr hlocks hin hown hE hP hD hA hS hl hex hz
  have hown : s.vm.findClass RX9 = some m.cls := hown
  refine lv_iload_n hx hb dX9_addClip_0 rfl (lv_at hl 1 rfl) ?_
  refine lv_iconst (v := 0) hx hb dX9_addClip_1 (by decide) ?_
  refine lv_sipush (v := 9999) hx hb dX9_addClip_2 (by decide) ?_
  refine g0_v (rS (rest := []) hx hb hml hown hE hP hD (c1477_X9_requireRange l g x2 h7 h8 s.heap.size) (kS_X9_requireRange hE (e636 hE) rfl rfl ⟨(Nat.le_of_ble_eq_true rfl), (Nat.le_of_ble_eq_true rfl)⟩) [] rfl (by decide) rfl hl.1 rfl (lv_room (Nat.le_of_ble_eq_true rfl)) dX9_addClip_5 ⟨(Nat.le_of_ble_eq_true rfl), (Nat.le_of_ble_eq_true rfl)⟩) hP hD hS hA (fun u9 H locs hP hS => ?_)
  refine lv_iload_n hx hb dX9_addClip_8 rfl (lv_at hl 2 rfl) ?_
  refine lv_iconst (v := 0) hx hb dX9_addClip_9 (by decide) ?_
  refine lv_bipush (v := 7) hx hb dX9_addClip_10 (by decide) ?_
  refine g0_v (rS (rest := []) hx hb hml hown hE hP hD (c1482_X9_requireRange l g x3 h9 h10 H.size) (kS_X9_requireRange hE (e636 hE) rfl rfl ⟨(Nat.le_of_ble_eq_true rfl), (Nat.le_of_ble_eq_true rfl)⟩) [] rfl (by decide) rfl hl.1 rfl (lv_room (Nat.le_of_ble_eq_true rfl)) dX9_addClip_12 ⟨(Nat.le_of_ble_eq_true rfl), (Nat.le_of_ble_eq_true rfl)⟩) hP hD hS hA (fun u9 H locs hP hS => ?_)
  refine lv_iload_n hx hb dX9_addClip_15 rfl (lv_at hl 3 rfl) ?_
  refine lv_iconst (v := 1) hx hb dX9_addClip_16 (by decide) ?_
  refine lv_bipush (v := 9) hx hb dX9_addClip_17 (by decide) ?_
  refine g0_v (rS (rest := []) hx hb hml hown hE hP hD (c117_X9_requireRange l g x4 h11 h12 H.size) (kS_X9_requireRange hE (e636 hE) rfl rfl ⟨(Nat.le_of_ble_eq_true rfl), (Nat.le_of_ble_eq_true rfl)⟩) [] rfl (by decide) rfl hl.1 rfl (lv_room (Nat.le_of_ble_eq_true rfl)) dX9_addClip_19 ⟨(Nat.le_of_ble_eq_true rfl), (Nat.le_of_ble_eq_true rfl)⟩) hP hD hS hA (fun u9 H locs hP hS => ?_)
  refine lv_iload hx hb dX9_addClip_22 (lv_at hl 4 rfl) ?_
  refine lv_bipush (v := (-50)) hx hb dX9_addClip_24 (by decide) ?_
  refine lv_bipush (v := 50) hx hb dX9_addClip_26 (by decide) ?_
  refine gx_v (wr := []) (rSx (rest := []) hx hb hml hown hE hP hD hS hA hz (c1486_X9_requireRange l g hlx x5 h13 H.size) (kS_X9_requireRange hE (e636 hE) rfl rfl ⟨(Nat.le_of_ble_eq_true rfl), (Nat.le_of_ble_eq_true rfl)⟩) [] rfl (by decide) rfl hl.1 rfl (lv_room (Nat.le_of_ble_eq_true rfl)) dX9_addClip_28 ⟨(Nat.le_of_ble_eq_true rfl), (Nat.le_of_ble_eq_true rfl)⟩) hP hD hS hA [] [] rfl rfl (by decide) (by decide) (fun ce9 q9 H locs hP hD hS hq1 hq2 hq3 => ?_)
  exact x_out hex hlocks hq1 hq2 hq3 hP hD hS hAe hsz (Nat.le_of_ble_eq_true rfl) (Nat.le_of_ble_eq_true rfl) [] (by decide) rfl

set_option maxHeartbeats 4000000 in
set_option maxRecDepth 100000 in
theorem c1488_L_addClip (l : Launch) (g : gG) (hlx : l.stackTraces = false) (q1 q7 : Nat) (x2 x3 x4 x5 x6 : Int32) (w15 w16 w17 w18 w19 w20 w21 w22 w23 w24 w25 : Value) (h8 : (0 : Int32) ≤ x2) (h9 : x2 ≤ 9999) (h10 : (0 : Int32) ≤ x3) (h11 : x3 ≤ 7) (h12 : (1 : Int32) ≤ x4) (h13 : x4 ≤ 9) (h14 : x5 < (-50)) (sz : Nat) : Met l yL_addClip [Cond.codeWith yL_addClip cL_addClip 8 (some .int) [(0, 16, 19, 15), (0, 16, 23, 17)]] ({ frames := 8, cells := 1, slots := 6, locals := 148 } : Room) (va_Pc [.ref q1, .int x2, .int x3, .int x4, .int x5, .int x6, .ref q7] (PZ g sz [(q1, .inr (11, [w15, w16, w17, w18, w19, w20, w21, w22, w23, w24, w25]))])) (QI g [(q1, .inr (11, [w15, w16, w17, w18, w19, w20, w21, w22, w23, w24, w25]))] sz 1 (fun _ => [])) 1 6 (va_A [(q1, .inr (11, [w15, w16, w17, w18, w19, w20, w21, w22, w23, w24, w25]))] sz) := by
  refine ofH (by decide) (Nat.le_of_ble_eq_true rfl) rfl ?_
  intro p e s m args below meth c A ls hAe hsz hx hb hml hr hlocks hin hown hE hP hD hA hS hl htb hz
  have hown : s.vm.findClass RL = some m.cls := hown
  refine lv_aload hx hb dL_addClip_0 (lv_at hl 6 rfl) ?_
  refine lv_iconst (v := 0) hx hb dL_addClip_2 (by decide) ?_
  refine lv_aload_n hx hb dL_addClip_3 rfl (lv_at hl 0 rfl) ?_
  refine lv_iload_n hx hb dL_addClip_4 rfl (lv_at hl 1 rfl) ?_
  refine lv_iload_n hx hb dL_addClip_5 rfl (lv_at hl 2 rfl) ?_
  refine lv_iload_n hx hb dL_addClip_6 rfl (lv_at hl 3 rfl) ?_
  refine lv_iload hx hb dL_addClip_7 (lv_at hl 4 rfl) ?_
  refine lv_iload hx hb dL_addClip_9 (lv_at hl 5 rfl) ?_
  refine gx_i (wr := [(q1, .inr (11, [w15, w16, w17, w18, w19, w20, w21, w22, w23, w24, w25]))]) (rVx (rest := [.int 0, .ref q7]) hx hb hml hown hE hP hD hS hA hz 0 rfl rfl (c1487_X9_addClip l g hlx q1 x2 x3 x4 x5 x6 h8 h9 h10 h11 h12 h13 h14 s.heap.size) (kV_X9_addClip hE (e803 hE) rfl rfl ⟨(Nat.le_of_ble_eq_true rfl), (Nat.le_of_ble_eq_true rfl)⟩) [] rfl (by decide) rfl hl.1 rfl (lv_room (Nat.le_of_ble_eq_true rfl)) dL_addClip_11 ⟨(Nat.le_of_ble_eq_true rfl), (Nat.le_of_ble_eq_true rfl)⟩) hP hD hS hA [] [0] rfl rfl (by decide) (by decide) (fun ce9 q9 H locs hP hD hS hq1 hq2 hq3 => ?_)
  have hP : va_P g.1 vwCl [(q1, .inr (11, [w15, w16, w17, w18, w19, w20, w21, w22, w23, w24, w25]))] H := hP
  have hD : va_D A [(q1, .inr (11, [w15, w16, w17, w18, w19, w20, w21, w22, w23, w24, w25]))] := hD
  refine x_catch (name := "java/lang/IllegalArgumentException") (hh := [(0, 16, 19, 15), (0, 16, 23, 17)]) (tgt := 19) hown htb [] ⟨0, 16, 19, 15⟩ [⟨0, 16, 23, 17⟩] rfl (fun _ h => nomatch h) rfl (by decide) (e611 hE) (e641 hE) hq1 hq2 hq3 rfl ?_
  refine lv_astore (lv' := [(7, .ref q9), (0, .ref q1), (1, .int x2), (2, .int x3), (3, .int x4), (4, .int x5), (5, .int x6), (6, .ref q7)]) hx hb dL_addClip_19 hl (by decide) rfl (fun ls hl => ?_)
  refine lv_iconst (v := 1) hx hb dL_addClip_21 (by decide) ?_
  exact x_zret hx hb hr rfl rfl hlocks hP hD hS hAe hsz (Nat.le_of_ble_eq_true rfl) (Nat.le_of_ble_eq_true rfl) (fun _ => 0) [] (by decide) rfl dL_addClip_22

set_option maxHeartbeats 4000000 in
set_option maxRecDepth 100000 in
theorem c1489_X10_in (l : Launch) (g : gG) (x1 : Int32) (h2 : x1 < (-50)) (sz : Nat) : Met l yX10_in [Cond.code yX10_in cX10_in 3 (some .boolean)] ({ frames := 0, cells := 0, slots := 0, locals := 0 } : Room) (va_Pc [.int x1, .int (-50), .int 50] (PX g sz [])) (QI g [] sz 0 (fun _ => [])) 0 0 (va_A [] sz) := by
  refine ofN (by decide) (Nat.le_of_ble_eq_true rfl) rfl ?_
  intro p e s m args below meth c A ls hAe hsz hx hb hml hr hlocks hin hown hE hP hD hA hS hl
  have hown : s.vm.findClass RX10 = some m.cls := hown
  refine lv_iload_n hx hb dX10_in_0 rfl (lv_at hl 0 rfl) ?_
  refine lv_iload_n hx hb dX10_in_1 rfl (lv_at hl 1 rfl) ?_
  refine lv_icmp_lt (tgt := 14) hx hb dX10_in_2 (by decide) (fun _ => ?_) (fun h => absurd h2 h)
  refine lv_iconst (v := 0) hx hb dX10_in_14 (by decide) ?_
  exact x_zret hx hb hr rfl rfl hlocks hP hD hS hAe hsz (Nat.le_of_ble_eq_true rfl) (Nat.le_of_ble_eq_true rfl) (fun _ => 0) [] (by decide) rfl dX10_in_15

set_option maxHeartbeats 4000000 in
set_option maxRecDepth 100000 in
theorem c1490_X10_addClip (l : Launch) (g : gG) (q1 : Nat) (x2 x3 x4 x5 x6 : Int32) (w7 w8 w9 w10 w11 w12 w13 w14 w15 w16 w17 w18 w19 w20 w21 w22 w23 w24 w25 w26 w27 w28 w29 w30 w31 w32 w33 w34 w35 w36 w37 w38 w39 w40 w41 w42 w43 : Value) (h44 : (0 : Int32) ≤ x2) (h45 : x2 ≤ 9999) (h46 : (0 : Int32) ≤ x3) (h47 : x3 ≤ 7) (h48 : (1 : Int32) ≤ x4) (h49 : x4 ≤ 9) (h50 : x5 < (-50)) (sz : Nat) : Met l yX10_addClip [Cond.code yX10_addClip cX10_addClip 8 (some .int)] ({ frames := 2, cells := 0, slots := 0, locals := 42 } : Room) (va_Pc [.ref q1, .int x2, .int x3, .int x4, .int x5, .int x6] (PX g sz [(q1, .inr (12, [w7, w8, w9, w10, w11, w12, w13, w14, w15, w16, w17, w18, w19, w20, w21, w22, w23, w24, w25, w26, w27, w28, w29, w30, w31, w32, w33, w34, w35, w36, w37, w38, w39, w40, w41, w42, w43]))])) (QI g [(q1, .inr (12, [w7, w8, w9, w10, w11, w12, w13, w14, w15, w16, w17, w18, w19, w20, w21, w22, w23, w24, w25, w26, w27, w28, w29, w30, w31, w32, w33, w34, w35, w36, w37, w38, w39, w40, w41, w42, w43]))] sz 0 (fun _ => [(q1, .inr (12, [w7, w8, w9, w10, w11, w12, .int 1, w14, w15, w16, w17, w18, w19, w20, w21, w22, w23, w24, w25, w26, w27, w28, w29, w30, w31, w32, w33, w34, w35, w36, w37, w38, w39, w40, w41, w42, w43]))])) 0 0 (va_A [(q1, .inr (12, [w7, w8, w9, w10, w11, w12, w13, w14, w15, w16, w17, w18, w19, w20, w21, w22, w23, w24, w25, w26, w27, w28, w29, w30, w31, w32, w33, w34, w35, w36, w37, w38, w39, w40, w41, w42, w43]))] sz) := by
  refine ofN (by decide) (Nat.le_of_ble_eq_true rfl) rfl ?_
  intro p e s m args below meth c A ls hAe hsz hx hb hml hr hlocks hin hown hE hP hD hA hS hl
  have hown : s.vm.findClass RX10 = some m.cls := hown
  refine lv_aload_n hx hb dX10_addClip_0 rfl (lv_at hl 0 rfl) ?_
  refine lv_iconst (v := 0) hx hb dX10_addClip_1 (by decide) ?_
  refine pf_RX10_86 (ws' := [(q1, .inr (12, [w7, w8, w9, w10, w11, w12, .int 0, w14, w15, w16, w17, w18, w19, w20, w21, w22, w23, w24, w25, w26, w27, w28, w29, w30, w31, w32, w33, w34, w35, w36, w37, w38, w39, w40, w41, w42, w43]))]) hx hb hown hE hP hD hS 0 rfl rfl rfl (Nat.le_of_ble_eq_true rfl) dX10_addClip_2 rfl (fun H locs hP hD hS => ?_)
  refine lv_iload_n hx hb dX10_addClip_5 rfl (lv_at hl 1 rfl) ?_
  refine lv_iconst (v := 0) hx hb dX10_addClip_6 (by decide) ?_
  refine lv_sipush (v := 9999) hx hb dX10_addClip_7 (by decide) ?_
  refine g0_i (rS (rest := []) hx hb hml hown hE hP hD (c1480_X10_in l g x2 h44 h45 H.size) (kS_X10_in hE (e1431 hE) rfl rfl ⟨(Nat.le_of_ble_eq_true rfl), (Nat.le_of_ble_eq_true rfl)⟩) [] rfl (by decide) rfl hl.1 rfl (lv_room (Nat.le_of_ble_eq_true rfl)) dX10_addClip_10 ⟨(Nat.le_of_ble_eq_true rfl), (Nat.le_of_ble_eq_true rfl)⟩) hP hD hS hA (fun u9 H locs hP hS => ?_)
  refine lv_if_eq (tgt := 59) hx hb dX10_addClip_13 (by decide) (fun h => absurd h (by decide)) (fun _ => ?_)
  refine lv_iload_n hx hb dX10_addClip_16 rfl (lv_at hl 2 rfl) ?_
  refine g0_i (rS (rest := []) hx hb hml hown hE hP hD (c94_X10_isPattern l g x3 h46 h47 H.size) (kS_X10_isPattern hE (e1428 hE) rfl rfl ⟨(Nat.le_of_ble_eq_true rfl), (Nat.le_of_ble_eq_true rfl)⟩) [] rfl (by decide) rfl hl.1 rfl (lv_room (Nat.le_of_ble_eq_true rfl)) dX10_addClip_17 ⟨(Nat.le_of_ble_eq_true rfl), (Nat.le_of_ble_eq_true rfl)⟩) hP hD hS hA (fun u9 H locs hP hS => ?_)
  refine lv_if_eq (tgt := 59) hx hb dX10_addClip_20 (by decide) (fun h => absurd h (by decide)) (fun _ => ?_)
  refine lv_iload_n hx hb dX10_addClip_23 rfl (lv_at hl 3 rfl) ?_
  refine lv_iconst (v := 1) hx hb dX10_addClip_24 (by decide) ?_
  refine lv_bipush (v := 9) hx hb dX10_addClip_25 (by decide) ?_
  refine g0_i (rS (rest := []) hx hb hml hown hE hP hD (c196_X10_in l g x4 h48 h49 H.size) (kS_X10_in hE (e1431 hE) rfl rfl ⟨(Nat.le_of_ble_eq_true rfl), (Nat.le_of_ble_eq_true rfl)⟩) [] rfl (by decide) rfl hl.1 rfl (lv_room (Nat.le_of_ble_eq_true rfl)) dX10_addClip_27 ⟨(Nat.le_of_ble_eq_true rfl), (Nat.le_of_ble_eq_true rfl)⟩) hP hD hS hA (fun u9 H locs hP hS => ?_)
  refine lv_if_eq (tgt := 59) hx hb dX10_addClip_30 (by decide) (fun h => absurd h (by decide)) (fun _ => ?_)
  refine lv_iload hx hb dX10_addClip_33 (lv_at hl 4 rfl) ?_
  refine lv_bipush (v := (-50)) hx hb dX10_addClip_35 (by decide) ?_
  refine lv_bipush (v := 50) hx hb dX10_addClip_37 (by decide) ?_
  refine g0_i (rS (rest := []) hx hb hml hown hE hP hD (c1489_X10_in l g x5 h50 H.size) (kS_X10_in hE (e1431 hE) rfl rfl ⟨(Nat.le_of_ble_eq_true rfl), (Nat.le_of_ble_eq_true rfl)⟩) [] rfl (by decide) rfl hl.1 rfl (lv_room (Nat.le_of_ble_eq_true rfl)) dX10_addClip_39 ⟨(Nat.le_of_ble_eq_true rfl), (Nat.le_of_ble_eq_true rfl)⟩) hP hD hS hA (fun u9 H locs hP hS => ?_)
  refine lv_if_eq (tgt := 59) hx hb dX10_addClip_42 (by decide) (fun _ => ?_) (fun h => absurd (by decide) h)
  refine lv_iconst (v := 0) hx hb dX10_addClip_59 (by decide) ?_
  refine lv_istore (lv' := [(6, .int 0), (0, .ref q1), (1, .int x2), (2, .int x3), (3, .int x4), (4, .int x5), (5, .int x6)]) hx hb dX10_addClip_60 hl (by decide) rfl (fun ls hl => ?_)
  refine lv_iload hx hb dX10_addClip_62 (lv_at hl 0 rfl) ?_
  refine lv_if_ne (tgt := 73) hx hb dX10_addClip_64 (by decide) (fun h => absurd h (by decide)) (fun _ => ?_)
  refine lv_aload_n hx hb dX10_addClip_67 rfl (lv_at hl 1 rfl) ?_
  refine lv_iconst (v := 1) hx hb dX10_addClip_68 (by decide) ?_
  refine g_i (wr := []) (rV (rest := []) hx hb hml hown hE hP hD 0 rfl rfl (c1475_X10_refuse l g q1 w7 w8 w9 w10 w11 w12 (.int 0) w14 w15 w16 w17 w18 w19 w20 w21 w22 w23 w24 w25 w26 w27 w28 w29 w30 w31 w32 w33 w34 w35 w36 w37 w38 w39 w40 w41 w42 w43 H.size) (kV_X10_refuse hE (e1474 hE) rfl rfl ⟨(Nat.le_of_ble_eq_true rfl), (Nat.le_of_ble_eq_true rfl)⟩) [0] rfl (by decide) rfl hl.1 rfl (lv_room (Nat.le_of_ble_eq_true rfl)) dX10_addClip_69 ⟨(Nat.le_of_ble_eq_true rfl), (Nat.le_of_ble_eq_true rfl)⟩) hP hD hS hA [0] [] rfl rfl (by decide) (by decide) (fun u5 H locs hP hD hS => ?_)
  have hP : va_P g.1 vwCl [(q1, .inr (12, [w7, w8, w9, w10, w11, w12, .int 1, w14, w15, w16, w17, w18, w19, w20, w21, w22, w23, w24, w25, w26, w27, w28, w29, w30, w31, w32, w33, w34, w35, w36, w37, w38, w39, w40, w41, w42, w43]))] H := hP
  have hD : va_D A [(q1, .inr (12, [w7, w8, w9, w10, w11, w12, .int 1, w14, w15, w16, w17, w18, w19, w20, w21, w22, w23, w24, w25, w26, w27, w28, w29, w30, w31, w32, w33, w34, w35, w36, w37, w38, w39, w40, w41, w42, w43]))] := hD
  exact x_zret hx hb hr rfl rfl hlocks hP hD hS hAe hsz (Nat.le_of_ble_eq_true rfl) (Nat.le_of_ble_eq_true rfl) (fun _ => 0) [0] (by decide) rfl dX10_addClip_72

set_option maxHeartbeats 4000000 in
set_option maxRecDepth 100000 in
theorem c1491_X9_requireRange (l : Launch) (g : gG) (x1 : Int32) (h2 : ((-50) : Int32) ≤ x1) (h3 : x1 ≤ 50) (sz : Nat) : Met l yX9_requireRange [Cond.code yX9_requireRange cX9_requireRange 3 none] ({ frames := 0, cells := 0, slots := 0, locals := 0 } : Room) (va_Pc [.int x1, .int (-50), .int 50] (PX g sz [])) (QV g [] sz (fun _ => [])) 0 0 (va_A [] sz) := by
  refine ofN (by decide) (Nat.le_of_ble_eq_true rfl) rfl ?_
  intro p e s m args below meth c A ls hAe hsz hx hb hml hr hlocks hin hown hE hP hD hA hS hl
  have hown : s.vm.findClass RX9 = some m.cls := hown
  refine lv_iload_n hx hb dX9_requireRange_0 rfl (lv_at hl 0 rfl) ?_
  refine lv_iload_n hx hb dX9_requireRange_1 rfl (lv_at hl 1 rfl) ?_
  refine lv_icmp_lt (tgt := 10) hx hb dX9_requireRange_2 (by decide) (fun h => absurd h (i_nlt h2)) (fun _ => ?_)
  refine lv_iload_n hx hb dX9_requireRange_5 rfl (lv_at hl 0 rfl) ?_
  refine lv_iload_n hx hb dX9_requireRange_6 rfl (lv_at hl 2 rfl) ?_
  refine lv_icmp_le (tgt := 21) hx hb dX9_requireRange_7 (by decide) (fun _ => ?_) (fun h => absurd h3 h)
  exact x_vret hx hb hr hlocks hP hD hS hAe hsz (Nat.le_of_ble_eq_true rfl) (Nat.le_of_ble_eq_true rfl) (fun _ => 0) [] (by decide) rfl dX9_requireRange_21

set_option maxHeartbeats 4000000 in
set_option maxRecDepth 100000 in
theorem c1492_X9_addClip (l : Launch) (g : gG) (hlx : l.stackTraces = false) (q1 : Nat) (x2 x3 x4 x5 x6 : Int32) (h7 : (0 : Int32) ≤ x2) (h8 : x2 ≤ 9999) (h9 : (0 : Int32) ≤ x3) (h10 : x3 ≤ 7) (h11 : (1 : Int32) ≤ x4) (h12 : x4 ≤ 9) (h13 : ((-50) : Int32) ≤ x5) (h14 : x5 ≤ 50) (h15 : x6 < 0) (sz : Nat) : vx_Met l yX9_addClip [Cond.code yX9_addClip cX9_addClip 7 (some .int)] ({ frames := 7, cells := 1, slots := 6, locals := 122 } : Room) (va_Pc [.ref q1, .int x2, .int x3, .int x4, .int x5, .int x6] (PZ g sz [])) NI (XW g [] sz "java/lang/IllegalArgumentException" []) 1 6 (va_A [] sz) := by
  refine ofX (by decide) (Nat.le_of_ble_eq_true rfl) rfl ?_
  intro p e s m args below meth c A ls hAe hsz hx hb hml hr hlocks hin hown hE hP hD hA hS hl hex hz
  have hown : s.vm.findClass RX9 = some m.cls := hown
  refine lv_iload_n hx hb dX9_addClip_0 rfl (lv_at hl 1 rfl) ?_
  refine lv_iconst (v := 0) hx hb dX9_addClip_1 (by decide) ?_
  refine lv_sipush (v := 9999) hx hb dX9_addClip_2 (by decide) ?_
  refine g0_v (rS (rest := []) hx hb hml hown hE hP hD (c1477_X9_requireRange l g x2 h7 h8 s.heap.size) (kS_X9_requireRange hE (e636 hE) rfl rfl ⟨(Nat.le_of_ble_eq_true rfl), (Nat.le_of_ble_eq_true rfl)⟩) [] rfl (by decide) rfl hl.1 rfl (lv_room (Nat.le_of_ble_eq_true rfl)) dX9_addClip_5 ⟨(Nat.le_of_ble_eq_true rfl), (Nat.le_of_ble_eq_true rfl)⟩) hP hD hS hA (fun u9 H locs hP hS => ?_)
  refine lv_iload_n hx hb dX9_addClip_8 rfl (lv_at hl 2 rfl) ?_
  refine lv_iconst (v := 0) hx hb dX9_addClip_9 (by decide) ?_
  refine lv_bipush (v := 7) hx hb dX9_addClip_10 (by decide) ?_
  refine g0_v (rS (rest := []) hx hb hml hown hE hP hD (c1482_X9_requireRange l g x3 h9 h10 H.size) (kS_X9_requireRange hE (e636 hE) rfl rfl ⟨(Nat.le_of_ble_eq_true rfl), (Nat.le_of_ble_eq_true rfl)⟩) [] rfl (by decide) rfl hl.1 rfl (lv_room (Nat.le_of_ble_eq_true rfl)) dX9_addClip_12 ⟨(Nat.le_of_ble_eq_true rfl), (Nat.le_of_ble_eq_true rfl)⟩) hP hD hS hA (fun u9 H locs hP hS => ?_)
  refine lv_iload_n hx hb dX9_addClip_15 rfl (lv_at hl 3 rfl) ?_
  refine lv_iconst (v := 1) hx hb dX9_addClip_16 (by decide) ?_
  refine lv_bipush (v := 9) hx hb dX9_addClip_17 (by decide) ?_
  refine g0_v (rS (rest := []) hx hb hml hown hE hP hD (c117_X9_requireRange l g x4 h11 h12 H.size) (kS_X9_requireRange hE (e636 hE) rfl rfl ⟨(Nat.le_of_ble_eq_true rfl), (Nat.le_of_ble_eq_true rfl)⟩) [] rfl (by decide) rfl hl.1 rfl (lv_room (Nat.le_of_ble_eq_true rfl)) dX9_addClip_19 ⟨(Nat.le_of_ble_eq_true rfl), (Nat.le_of_ble_eq_true rfl)⟩) hP hD hS hA (fun u9 H locs hP hS => ?_)
  refine lv_iload hx hb dX9_addClip_22 (lv_at hl 4 rfl) ?_
  refine lv_bipush (v := (-50)) hx hb dX9_addClip_24 (by decide) ?_
  refine lv_bipush (v := 50) hx hb dX9_addClip_26 (by decide) ?_
  refine g0_v (rS (rest := []) hx hb hml hown hE hP hD (c1491_X9_requireRange l g x5 h13 h14 H.size) (kS_X9_requireRange hE (e636 hE) rfl rfl ⟨(Nat.le_of_ble_eq_true rfl), (Nat.le_of_ble_eq_true rfl)⟩) [] rfl (by decide) rfl hl.1 rfl (lv_room (Nat.le_of_ble_eq_true rfl)) dX9_addClip_28 ⟨(Nat.le_of_ble_eq_true rfl), (Nat.le_of_ble_eq_true rfl)⟩) hP hD hS hA (fun u9 H locs hP hS => ?_)
  refine lv_iload hx hb dX9_addClip_31 (lv_at hl 5 rfl) ?_
  refine lv_iconst (v := 0) hx hb dX9_addClip_33 (by decide) ?_
  refine lv_iconst (v := 3) hx hb dX9_addClip_34 (by decide) ?_
  refine gx_v (wr := []) (rSx (rest := []) hx hb hml hown hE hP hD hS hA hz (c639_X9_requireRange l g hlx x6 3 h15 H.size) (kS_X9_requireRange hE (e636 hE) rfl rfl ⟨(Nat.le_of_ble_eq_true rfl), (Nat.le_of_ble_eq_true rfl)⟩) [] rfl (by decide) rfl hl.1 rfl (lv_room (Nat.le_of_ble_eq_true rfl)) dX9_addClip_35 ⟨(Nat.le_of_ble_eq_true rfl), (Nat.le_of_ble_eq_true rfl)⟩) hP hD hS hA [] [] rfl rfl (by decide) (by decide) (fun ce9 q9 H locs hP hD hS hq1 hq2 hq3 => ?_)
  exact x_out hex hlocks hq1 hq2 hq3 hP hD hS hAe hsz (Nat.le_of_ble_eq_true rfl) (Nat.le_of_ble_eq_true rfl) [] (by decide) rfl

set_option maxHeartbeats 4000000 in
set_option maxRecDepth 100000 in
theorem c1493_L_addClip (l : Launch) (g : gG) (hlx : l.stackTraces = false) (q1 q7 : Nat) (x2 x3 x4 x5 x6 : Int32) (w17 w18 w19 w20 w21 w22 w23 w24 w25 w26 w27 : Value) (h8 : (0 : Int32) ≤ x2) (h9 : x2 ≤ 9999) (h10 : (0 : Int32) ≤ x3) (h11 : x3 ≤ 7) (h12 : (1 : Int32) ≤ x4) (h13 : x4 ≤ 9) (h14 : ((-50) : Int32) ≤ x5) (h15 : x5 ≤ 50) (h16 : x6 < 0) (sz : Nat) : Met l yL_addClip [Cond.codeWith yL_addClip cL_addClip 8 (some .int) [(0, 16, 19, 15), (0, 16, 23, 17)]] ({ frames := 8, cells := 1, slots := 6, locals := 148 } : Room) (va_Pc [.ref q1, .int x2, .int x3, .int x4, .int x5, .int x6, .ref q7] (PZ g sz [(q1, .inr (11, [w17, w18, w19, w20, w21, w22, w23, w24, w25, w26, w27]))])) (QI g [(q1, .inr (11, [w17, w18, w19, w20, w21, w22, w23, w24, w25, w26, w27]))] sz 1 (fun _ => [])) 1 6 (va_A [(q1, .inr (11, [w17, w18, w19, w20, w21, w22, w23, w24, w25, w26, w27]))] sz) := by
  refine ofH (by decide) (Nat.le_of_ble_eq_true rfl) rfl ?_
  intro p e s m args below meth c A ls hAe hsz hx hb hml hr hlocks hin hown hE hP hD hA hS hl htb hz
  have hown : s.vm.findClass RL = some m.cls := hown
  refine lv_aload hx hb dL_addClip_0 (lv_at hl 6 rfl) ?_
  refine lv_iconst (v := 0) hx hb dL_addClip_2 (by decide) ?_
  refine lv_aload_n hx hb dL_addClip_3 rfl (lv_at hl 0 rfl) ?_
  refine lv_iload_n hx hb dL_addClip_4 rfl (lv_at hl 1 rfl) ?_
  refine lv_iload_n hx hb dL_addClip_5 rfl (lv_at hl 2 rfl) ?_
  refine lv_iload_n hx hb dL_addClip_6 rfl (lv_at hl 3 rfl) ?_
  refine lv_iload hx hb dL_addClip_7 (lv_at hl 4 rfl) ?_
  refine lv_iload hx hb dL_addClip_9 (lv_at hl 5 rfl) ?_
  refine gx_i (wr := [(q1, .inr (11, [w17, w18, w19, w20, w21, w22, w23, w24, w25, w26, w27]))]) (rVx (rest := [.int 0, .ref q7]) hx hb hml hown hE hP hD hS hA hz 0 rfl rfl (c1492_X9_addClip l g hlx q1 x2 x3 x4 x5 x6 h8 h9 h10 h11 h12 h13 h14 h15 h16 s.heap.size) (kV_X9_addClip hE (e803 hE) rfl rfl ⟨(Nat.le_of_ble_eq_true rfl), (Nat.le_of_ble_eq_true rfl)⟩) [] rfl (by decide) rfl hl.1 rfl (lv_room (Nat.le_of_ble_eq_true rfl)) dL_addClip_11 ⟨(Nat.le_of_ble_eq_true rfl), (Nat.le_of_ble_eq_true rfl)⟩) hP hD hS hA [] [0] rfl rfl (by decide) (by decide) (fun ce9 q9 H locs hP hD hS hq1 hq2 hq3 => ?_)
  have hP : va_P g.1 vwCl [(q1, .inr (11, [w17, w18, w19, w20, w21, w22, w23, w24, w25, w26, w27]))] H := hP
  have hD : va_D A [(q1, .inr (11, [w17, w18, w19, w20, w21, w22, w23, w24, w25, w26, w27]))] := hD
  refine x_catch (name := "java/lang/IllegalArgumentException") (hh := [(0, 16, 19, 15), (0, 16, 23, 17)]) (tgt := 19) hown htb [] ⟨0, 16, 19, 15⟩ [⟨0, 16, 23, 17⟩] rfl (fun _ h => nomatch h) rfl (by decide) (e611 hE) (e641 hE) hq1 hq2 hq3 rfl ?_
  refine lv_astore (lv' := [(7, .ref q9), (0, .ref q1), (1, .int x2), (2, .int x3), (3, .int x4), (4, .int x5), (5, .int x6), (6, .ref q7)]) hx hb dL_addClip_19 hl (by decide) rfl (fun ls hl => ?_)
  refine lv_iconst (v := 1) hx hb dL_addClip_21 (by decide) ?_
  exact x_zret hx hb hr rfl rfl hlocks hP hD hS hAe hsz (Nat.le_of_ble_eq_true rfl) (Nat.le_of_ble_eq_true rfl) (fun _ => 0) [] (by decide) rfl dL_addClip_22

set_option maxHeartbeats 4000000 in
set_option maxRecDepth 100000 in
theorem c1494_X10_in (l : Launch) (g : gG) (x1 : Int32) (h2 : ((-50) : Int32) ≤ x1) (h3 : x1 ≤ 50) (sz : Nat) : Met l yX10_in [Cond.code yX10_in cX10_in 3 (some .boolean)] ({ frames := 0, cells := 0, slots := 0, locals := 0 } : Room) (va_Pc [.int x1, .int (-50), .int 50] (PX g sz [])) (QI g [] sz 1 (fun _ => [])) 0 0 (va_A [] sz) := by
  refine ofN (by decide) (Nat.le_of_ble_eq_true rfl) rfl ?_
  intro p e s m args below meth c A ls hAe hsz hx hb hml hr hlocks hin hown hE hP hD hA hS hl
  have hown : s.vm.findClass RX10 = some m.cls := hown
  refine lv_iload_n hx hb dX10_in_0 rfl (lv_at hl 0 rfl) ?_
  refine lv_iload_n hx hb dX10_in_1 rfl (lv_at hl 1 rfl) ?_
  refine lv_icmp_lt (tgt := 14) hx hb dX10_in_2 (by decide) (fun h => absurd h (i_nlt h2)) (fun _ => ?_)
  refine lv_iload_n hx hb dX10_in_5 rfl (lv_at hl 0 rfl) ?_
  refine lv_iload_n hx hb dX10_in_6 rfl (lv_at hl 2 rfl) ?_
  refine lv_icmp_gt (tgt := 14) hx hb dX10_in_7 (by decide) (fun h => absurd h (i_nlt h3)) (fun _ => ?_)
  refine lv_iconst (v := 1) hx hb dX10_in_10 (by decide) ?_
  refine lv_goto (tgt := 15) hx hb dX10_in_11 (by decide) ?_
  exact x_zret hx hb hr rfl rfl hlocks hP hD hS hAe hsz (Nat.le_of_ble_eq_true rfl) (Nat.le_of_ble_eq_true rfl) (fun _ => 0) [] (by decide) rfl dX10_in_15

set_option maxHeartbeats 4000000 in
set_option maxRecDepth 100000 in
theorem c1495_X10_addClip (l : Launch) (g : gG) (q1 : Nat) (x2 x3 x4 x5 x6 : Int32) (w7 w8 w9 w10 w11 w12 w13 w14 w15 w16 w17 w18 w19 w20 w21 w22 w23 w24 w25 w26 w27 w28 w29 w30 w31 w32 w33 w34 w35 w36 w37 w38 w39 w40 w41 w42 w43 : Value) (h44 : (0 : Int32) ≤ x2) (h45 : x2 ≤ 9999) (h46 : (0 : Int32) ≤ x3) (h47 : x3 ≤ 7) (h48 : (1 : Int32) ≤ x4) (h49 : x4 ≤ 9) (h50 : ((-50) : Int32) ≤ x5) (h51 : x5 ≤ 50) (h52 : x6 < 0) (sz : Nat) : Met l yX10_addClip [Cond.code yX10_addClip cX10_addClip 8 (some .int)] ({ frames := 2, cells := 0, slots := 0, locals := 42 } : Room) (va_Pc [.ref q1, .int x2, .int x3, .int x4, .int x5, .int x6] (PX g sz [(q1, .inr (12, [w7, w8, w9, w10, w11, w12, w13, w14, w15, w16, w17, w18, w19, w20, w21, w22, w23, w24, w25, w26, w27, w28, w29, w30, w31, w32, w33, w34, w35, w36, w37, w38, w39, w40, w41, w42, w43]))])) (QI g [(q1, .inr (12, [w7, w8, w9, w10, w11, w12, w13, w14, w15, w16, w17, w18, w19, w20, w21, w22, w23, w24, w25, w26, w27, w28, w29, w30, w31, w32, w33, w34, w35, w36, w37, w38, w39, w40, w41, w42, w43]))] sz 0 (fun _ => [(q1, .inr (12, [w7, w8, w9, w10, w11, w12, .int 1, w14, w15, w16, w17, w18, w19, w20, w21, w22, w23, w24, w25, w26, w27, w28, w29, w30, w31, w32, w33, w34, w35, w36, w37, w38, w39, w40, w41, w42, w43]))])) 0 0 (va_A [(q1, .inr (12, [w7, w8, w9, w10, w11, w12, w13, w14, w15, w16, w17, w18, w19, w20, w21, w22, w23, w24, w25, w26, w27, w28, w29, w30, w31, w32, w33, w34, w35, w36, w37, w38, w39, w40, w41, w42, w43]))] sz) := by
  refine ofN (by decide) (Nat.le_of_ble_eq_true rfl) rfl ?_
  intro p e s m args below meth c A ls hAe hsz hx hb hml hr hlocks hin hown hE hP hD hA hS hl
  have hown : s.vm.findClass RX10 = some m.cls := hown
  refine lv_aload_n hx hb dX10_addClip_0 rfl (lv_at hl 0 rfl) ?_
  refine lv_iconst (v := 0) hx hb dX10_addClip_1 (by decide) ?_
  refine pf_RX10_86 (ws' := [(q1, .inr (12, [w7, w8, w9, w10, w11, w12, .int 0, w14, w15, w16, w17, w18, w19, w20, w21, w22, w23, w24, w25, w26, w27, w28, w29, w30, w31, w32, w33, w34, w35, w36, w37, w38, w39, w40, w41, w42, w43]))]) hx hb hown hE hP hD hS 0 rfl rfl rfl (Nat.le_of_ble_eq_true rfl) dX10_addClip_2 rfl (fun H locs hP hD hS => ?_)
  refine lv_iload_n hx hb dX10_addClip_5 rfl (lv_at hl 1 rfl) ?_
  refine lv_iconst (v := 0) hx hb dX10_addClip_6 (by decide) ?_
  refine lv_sipush (v := 9999) hx hb dX10_addClip_7 (by decide) ?_
  refine g0_i (rS (rest := []) hx hb hml hown hE hP hD (c1480_X10_in l g x2 h44 h45 H.size) (kS_X10_in hE (e1431 hE) rfl rfl ⟨(Nat.le_of_ble_eq_true rfl), (Nat.le_of_ble_eq_true rfl)⟩) [] rfl (by decide) rfl hl.1 rfl (lv_room (Nat.le_of_ble_eq_true rfl)) dX10_addClip_10 ⟨(Nat.le_of_ble_eq_true rfl), (Nat.le_of_ble_eq_true rfl)⟩) hP hD hS hA (fun u9 H locs hP hS => ?_)
  refine lv_if_eq (tgt := 59) hx hb dX10_addClip_13 (by decide) (fun h => absurd h (by decide)) (fun _ => ?_)
  refine lv_iload_n hx hb dX10_addClip_16 rfl (lv_at hl 2 rfl) ?_
  refine g0_i (rS (rest := []) hx hb hml hown hE hP hD (c94_X10_isPattern l g x3 h46 h47 H.size) (kS_X10_isPattern hE (e1428 hE) rfl rfl ⟨(Nat.le_of_ble_eq_true rfl), (Nat.le_of_ble_eq_true rfl)⟩) [] rfl (by decide) rfl hl.1 rfl (lv_room (Nat.le_of_ble_eq_true rfl)) dX10_addClip_17 ⟨(Nat.le_of_ble_eq_true rfl), (Nat.le_of_ble_eq_true rfl)⟩) hP hD hS hA (fun u9 H locs hP hS => ?_)
  refine lv_if_eq (tgt := 59) hx hb dX10_addClip_20 (by decide) (fun h => absurd h (by decide)) (fun _ => ?_)
  refine lv_iload_n hx hb dX10_addClip_23 rfl (lv_at hl 3 rfl) ?_
  refine lv_iconst (v := 1) hx hb dX10_addClip_24 (by decide) ?_
  refine lv_bipush (v := 9) hx hb dX10_addClip_25 (by decide) ?_
  refine g0_i (rS (rest := []) hx hb hml hown hE hP hD (c196_X10_in l g x4 h48 h49 H.size) (kS_X10_in hE (e1431 hE) rfl rfl ⟨(Nat.le_of_ble_eq_true rfl), (Nat.le_of_ble_eq_true rfl)⟩) [] rfl (by decide) rfl hl.1 rfl (lv_room (Nat.le_of_ble_eq_true rfl)) dX10_addClip_27 ⟨(Nat.le_of_ble_eq_true rfl), (Nat.le_of_ble_eq_true rfl)⟩) hP hD hS hA (fun u9 H locs hP hS => ?_)
  refine lv_if_eq (tgt := 59) hx hb dX10_addClip_30 (by decide) (fun h => absurd h (by decide)) (fun _ => ?_)
  refine lv_iload hx hb dX10_addClip_33 (lv_at hl 4 rfl) ?_
  refine lv_bipush (v := (-50)) hx hb dX10_addClip_35 (by decide) ?_
  refine lv_bipush (v := 50) hx hb dX10_addClip_37 (by decide) ?_
  refine g0_i (rS (rest := []) hx hb hml hown hE hP hD (c1494_X10_in l g x5 h50 h51 H.size) (kS_X10_in hE (e1431 hE) rfl rfl ⟨(Nat.le_of_ble_eq_true rfl), (Nat.le_of_ble_eq_true rfl)⟩) [] rfl (by decide) rfl hl.1 rfl (lv_room (Nat.le_of_ble_eq_true rfl)) dX10_addClip_39 ⟨(Nat.le_of_ble_eq_true rfl), (Nat.le_of_ble_eq_true rfl)⟩) hP hD hS hA (fun u9 H locs hP hS => ?_)
  refine lv_if_eq (tgt := 59) hx hb dX10_addClip_42 (by decide) (fun h => absurd h (by decide)) (fun _ => ?_)
  refine lv_iload hx hb dX10_addClip_45 (lv_at hl 5 rfl) ?_
  refine lv_iconst (v := 0) hx hb dX10_addClip_47 (by decide) ?_
  refine lv_iconst (v := 3) hx hb dX10_addClip_48 (by decide) ?_
  refine g0_i (rS (rest := []) hx hb hml hown hE hP hD (c642_X10_in l g x6 3 h52 H.size) (kS_X10_in hE (e1431 hE) rfl rfl ⟨(Nat.le_of_ble_eq_true rfl), (Nat.le_of_ble_eq_true rfl)⟩) [] rfl (by decide) rfl hl.1 rfl (lv_room (Nat.le_of_ble_eq_true rfl)) dX10_addClip_49 ⟨(Nat.le_of_ble_eq_true rfl), (Nat.le_of_ble_eq_true rfl)⟩) hP hD hS hA (fun u9 H locs hP hS => ?_)
  refine lv_if_eq (tgt := 59) hx hb dX10_addClip_52 (by decide) (fun _ => ?_) (fun h => absurd (by decide) h)
  refine lv_iconst (v := 0) hx hb dX10_addClip_59 (by decide) ?_
  refine lv_istore (lv' := [(6, .int 0), (0, .ref q1), (1, .int x2), (2, .int x3), (3, .int x4), (4, .int x5), (5, .int x6)]) hx hb dX10_addClip_60 hl (by decide) rfl (fun ls hl => ?_)
  refine lv_iload hx hb dX10_addClip_62 (lv_at hl 0 rfl) ?_
  refine lv_if_ne (tgt := 73) hx hb dX10_addClip_64 (by decide) (fun h => absurd h (by decide)) (fun _ => ?_)
  refine lv_aload_n hx hb dX10_addClip_67 rfl (lv_at hl 1 rfl) ?_
  refine lv_iconst (v := 1) hx hb dX10_addClip_68 (by decide) ?_
  refine g_i (wr := []) (rV (rest := []) hx hb hml hown hE hP hD 0 rfl rfl (c1475_X10_refuse l g q1 w7 w8 w9 w10 w11 w12 (.int 0) w14 w15 w16 w17 w18 w19 w20 w21 w22 w23 w24 w25 w26 w27 w28 w29 w30 w31 w32 w33 w34 w35 w36 w37 w38 w39 w40 w41 w42 w43 H.size) (kV_X10_refuse hE (e1474 hE) rfl rfl ⟨(Nat.le_of_ble_eq_true rfl), (Nat.le_of_ble_eq_true rfl)⟩) [0] rfl (by decide) rfl hl.1 rfl (lv_room (Nat.le_of_ble_eq_true rfl)) dX10_addClip_69 ⟨(Nat.le_of_ble_eq_true rfl), (Nat.le_of_ble_eq_true rfl)⟩) hP hD hS hA [0] [] rfl rfl (by decide) (by decide) (fun u6 H locs hP hD hS => ?_)
  have hP : va_P g.1 vwCl [(q1, .inr (12, [w7, w8, w9, w10, w11, w12, .int 1, w14, w15, w16, w17, w18, w19, w20, w21, w22, w23, w24, w25, w26, w27, w28, w29, w30, w31, w32, w33, w34, w35, w36, w37, w38, w39, w40, w41, w42, w43]))] H := hP
  have hD : va_D A [(q1, .inr (12, [w7, w8, w9, w10, w11, w12, .int 1, w14, w15, w16, w17, w18, w19, w20, w21, w22, w23, w24, w25, w26, w27, w28, w29, w30, w31, w32, w33, w34, w35, w36, w37, w38, w39, w40, w41, w42, w43]))] := hD
  exact x_zret hx hb hr rfl rfl hlocks hP hD hS hAe hsz (Nat.le_of_ble_eq_true rfl) (Nat.le_of_ble_eq_true rfl) (fun _ => 0) [0] (by decide) rfl dX10_addClip_72

set_option maxHeartbeats 4000000 in
set_option maxRecDepth 100000 in
theorem c1496_X9_putAt (l : Launch) (g : gG) (q1 : Nat) (x2 : Int32) (f3 : Nat → Int32) (sz : Nat) : Met l yX9_putAt [Cond.code yX9_putAt cX9_putAt 3 none] ({ frames := 0, cells := 0, slots := 0, locals := 0 } : Room) (va_Pc [.ref q1, .int 0, .int x2] (PX g sz [(q1, .inl (g.2 0, 60, .inl f3))])) (QV g [(q1, .inl (g.2 0, 60, .inl f3))] sz (fun _ => [(q1, .inl (g.2 0, 60, .inl (upd f3 0 x2)))])) 0 0 (va_A [(q1, .inl (g.2 0, 60, .inl f3))] sz) := by
  refine ofN (by decide) (Nat.le_of_ble_eq_true rfl) rfl ?_
  intro p e s m args below meth c A ls hAe hsz hx hb hml hr hlocks hin hown hE hP hD hA hS hl
  have hown : s.vm.findClass RX9 = some m.cls := hown
  refine lv_iload_n hx hb dX9_putAt_0 rfl (lv_at hl 1 rfl) ?_
  refine lv_if_lt (tgt := 14) hx hb dX9_putAt_1 (by decide) (fun h => absurd h (by decide)) (fun _ => ?_)
  refine lv_iload_n hx hb dX9_putAt_4 rfl (lv_at hl 1 rfl) ?_
  refine lv_aload_n hx hb dX9_putAt_5 rfl (lv_at hl 0 rfl) ?_
  refine x_aleni (v := 60) hx hb hE hP 0 rfl rfl dX9_putAt_6 ?_
  refine lv_icmp_ge (tgt := 14) hx hb dX9_putAt_7 (by decide) (fun h => absurd h (by decide)) (fun _ => ?_)
  refine lv_aload_n hx hb dX9_putAt_10 rfl (lv_at hl 0 rfl) ?_
  refine lv_iload_n hx hb dX9_putAt_11 rfl (lv_at hl 1 rfl) ?_
  refine lv_iload_n hx hb dX9_putAt_12 rfl (lv_at hl 2 rfl) ?_
  refine x_iast (ws' := [(q1, .inl (g.2 0, 60, .inl (upd f3 0 x2)))]) hx hb hE hP hD hS 0 rfl 0 (x_in (by decide)) (by decide) dX9_putAt_13 rfl (fun H locs hP hD hS => ?_)
  exact x_vret hx hb hr hlocks hP hD hS hAe hsz (Nat.le_of_ble_eq_true rfl) (Nat.le_of_ble_eq_true rfl) (fun _ => 0) [0] (by decide) rfl dX9_putAt_14

set_option maxHeartbeats 4000000 in
set_option maxRecDepth 100000 in
theorem c1497_X9_putAt (l : Launch) (g : gG) (q1 : Nat) (x2 : Int32) (f3 : Nat → Int32) (sz : Nat) : Met l yX9_putAt [Cond.code yX9_putAt cX9_putAt 3 none] ({ frames := 0, cells := 0, slots := 0, locals := 0 } : Room) (va_Pc [.ref q1, .int 1, .int x2] (PX g sz [(q1, .inl (g.2 0, 60, .inl f3))])) (QV g [(q1, .inl (g.2 0, 60, .inl f3))] sz (fun _ => [(q1, .inl (g.2 0, 60, .inl (upd f3 1 x2)))])) 0 0 (va_A [(q1, .inl (g.2 0, 60, .inl f3))] sz) := by
  refine ofN (by decide) (Nat.le_of_ble_eq_true rfl) rfl ?_
  intro p e s m args below meth c A ls hAe hsz hx hb hml hr hlocks hin hown hE hP hD hA hS hl
  have hown : s.vm.findClass RX9 = some m.cls := hown
  refine lv_iload_n hx hb dX9_putAt_0 rfl (lv_at hl 1 rfl) ?_
  refine lv_if_lt (tgt := 14) hx hb dX9_putAt_1 (by decide) (fun h => absurd h (by decide)) (fun _ => ?_)
  refine lv_iload_n hx hb dX9_putAt_4 rfl (lv_at hl 1 rfl) ?_
  refine lv_aload_n hx hb dX9_putAt_5 rfl (lv_at hl 0 rfl) ?_
  refine x_aleni (v := 60) hx hb hE hP 0 rfl rfl dX9_putAt_6 ?_
  refine lv_icmp_ge (tgt := 14) hx hb dX9_putAt_7 (by decide) (fun h => absurd h (by decide)) (fun _ => ?_)
  refine lv_aload_n hx hb dX9_putAt_10 rfl (lv_at hl 0 rfl) ?_
  refine lv_iload_n hx hb dX9_putAt_11 rfl (lv_at hl 1 rfl) ?_
  refine lv_iload_n hx hb dX9_putAt_12 rfl (lv_at hl 2 rfl) ?_
  refine x_iast (ws' := [(q1, .inl (g.2 0, 60, .inl (upd f3 1 x2)))]) hx hb hE hP hD hS 0 rfl 1 (x_in (by decide)) (by decide) dX9_putAt_13 rfl (fun H locs hP hD hS => ?_)
  exact x_vret hx hb hr hlocks hP hD hS hAe hsz (Nat.le_of_ble_eq_true rfl) (Nat.le_of_ble_eq_true rfl) (fun _ => 0) [0] (by decide) rfl dX9_putAt_14

set_option maxHeartbeats 4000000 in
set_option maxRecDepth 100000 in
theorem c1498_X9_putAt (l : Launch) (g : gG) (q1 : Nat) (x2 : Int32) (f3 : Nat → Int32) (sz : Nat) : Met l yX9_putAt [Cond.code yX9_putAt cX9_putAt 3 none] ({ frames := 0, cells := 0, slots := 0, locals := 0 } : Room) (va_Pc [.ref q1, .int 2, .int x2] (PX g sz [(q1, .inl (g.2 0, 60, .inl f3))])) (QV g [(q1, .inl (g.2 0, 60, .inl f3))] sz (fun _ => [(q1, .inl (g.2 0, 60, .inl (upd f3 2 x2)))])) 0 0 (va_A [(q1, .inl (g.2 0, 60, .inl f3))] sz) := by
  refine ofN (by decide) (Nat.le_of_ble_eq_true rfl) rfl ?_
  intro p e s m args below meth c A ls hAe hsz hx hb hml hr hlocks hin hown hE hP hD hA hS hl
  have hown : s.vm.findClass RX9 = some m.cls := hown
  refine lv_iload_n hx hb dX9_putAt_0 rfl (lv_at hl 1 rfl) ?_
  refine lv_if_lt (tgt := 14) hx hb dX9_putAt_1 (by decide) (fun h => absurd h (by decide)) (fun _ => ?_)
  refine lv_iload_n hx hb dX9_putAt_4 rfl (lv_at hl 1 rfl) ?_
  refine lv_aload_n hx hb dX9_putAt_5 rfl (lv_at hl 0 rfl) ?_
  refine x_aleni (v := 60) hx hb hE hP 0 rfl rfl dX9_putAt_6 ?_
  refine lv_icmp_ge (tgt := 14) hx hb dX9_putAt_7 (by decide) (fun h => absurd h (by decide)) (fun _ => ?_)
  refine lv_aload_n hx hb dX9_putAt_10 rfl (lv_at hl 0 rfl) ?_
  refine lv_iload_n hx hb dX9_putAt_11 rfl (lv_at hl 1 rfl) ?_
  refine lv_iload_n hx hb dX9_putAt_12 rfl (lv_at hl 2 rfl) ?_
  refine x_iast (ws' := [(q1, .inl (g.2 0, 60, .inl (upd f3 2 x2)))]) hx hb hE hP hD hS 0 rfl 2 (x_in (by decide)) (by decide) dX9_putAt_13 rfl (fun H locs hP hD hS => ?_)
  exact x_vret hx hb hr hlocks hP hD hS hAe hsz (Nat.le_of_ble_eq_true rfl) (Nat.le_of_ble_eq_true rfl) (fun _ => 0) [0] (by decide) rfl dX9_putAt_14

set_option maxHeartbeats 4000000 in
set_option maxRecDepth 100000 in
theorem c1499_X9_putAt (l : Launch) (g : gG) (q1 : Nat) (x2 : Int32) (f3 : Nat → Int32) (sz : Nat) : Met l yX9_putAt [Cond.code yX9_putAt cX9_putAt 3 none] ({ frames := 0, cells := 0, slots := 0, locals := 0 } : Room) (va_Pc [.ref q1, .int 3, .int x2] (PX g sz [(q1, .inl (g.2 0, 60, .inl f3))])) (QV g [(q1, .inl (g.2 0, 60, .inl f3))] sz (fun _ => [(q1, .inl (g.2 0, 60, .inl (upd f3 3 x2)))])) 0 0 (va_A [(q1, .inl (g.2 0, 60, .inl f3))] sz) := by
  refine ofN (by decide) (Nat.le_of_ble_eq_true rfl) rfl ?_
  intro p e s m args below meth c A ls hAe hsz hx hb hml hr hlocks hin hown hE hP hD hA hS hl
  have hown : s.vm.findClass RX9 = some m.cls := hown
  refine lv_iload_n hx hb dX9_putAt_0 rfl (lv_at hl 1 rfl) ?_
  refine lv_if_lt (tgt := 14) hx hb dX9_putAt_1 (by decide) (fun h => absurd h (by decide)) (fun _ => ?_)
  refine lv_iload_n hx hb dX9_putAt_4 rfl (lv_at hl 1 rfl) ?_
  refine lv_aload_n hx hb dX9_putAt_5 rfl (lv_at hl 0 rfl) ?_
  refine x_aleni (v := 60) hx hb hE hP 0 rfl rfl dX9_putAt_6 ?_
  refine lv_icmp_ge (tgt := 14) hx hb dX9_putAt_7 (by decide) (fun h => absurd h (by decide)) (fun _ => ?_)
  refine lv_aload_n hx hb dX9_putAt_10 rfl (lv_at hl 0 rfl) ?_
  refine lv_iload_n hx hb dX9_putAt_11 rfl (lv_at hl 1 rfl) ?_
  refine lv_iload_n hx hb dX9_putAt_12 rfl (lv_at hl 2 rfl) ?_
  refine x_iast (ws' := [(q1, .inl (g.2 0, 60, .inl (upd f3 3 x2)))]) hx hb hE hP hD hS 0 rfl 3 (x_in (by decide)) (by decide) dX9_putAt_13 rfl (fun H locs hP hD hS => ?_)
  exact x_vret hx hb hr hlocks hP hD hS hAe hsz (Nat.le_of_ble_eq_true rfl) (Nat.le_of_ble_eq_true rfl) (fun _ => 0) [0] (by decide) rfl dX9_putAt_14

set_option maxHeartbeats 4000000 in
set_option maxRecDepth 100000 in
theorem c1500_X9_putAt (l : Launch) (g : gG) (q1 : Nat) (x2 : Int32) (f3 : Nat → Int32) (sz : Nat) : Met l yX9_putAt [Cond.code yX9_putAt cX9_putAt 3 none] ({ frames := 0, cells := 0, slots := 0, locals := 0 } : Room) (va_Pc [.ref q1, .int 4, .int x2] (PX g sz [(q1, .inl (g.2 0, 60, .inl f3))])) (QV g [(q1, .inl (g.2 0, 60, .inl f3))] sz (fun _ => [(q1, .inl (g.2 0, 60, .inl (upd f3 4 x2)))])) 0 0 (va_A [(q1, .inl (g.2 0, 60, .inl f3))] sz) := by
  refine ofN (by decide) (Nat.le_of_ble_eq_true rfl) rfl ?_
  intro p e s m args below meth c A ls hAe hsz hx hb hml hr hlocks hin hown hE hP hD hA hS hl
  have hown : s.vm.findClass RX9 = some m.cls := hown
  refine lv_iload_n hx hb dX9_putAt_0 rfl (lv_at hl 1 rfl) ?_
  refine lv_if_lt (tgt := 14) hx hb dX9_putAt_1 (by decide) (fun h => absurd h (by decide)) (fun _ => ?_)
  refine lv_iload_n hx hb dX9_putAt_4 rfl (lv_at hl 1 rfl) ?_
  refine lv_aload_n hx hb dX9_putAt_5 rfl (lv_at hl 0 rfl) ?_
  refine x_aleni (v := 60) hx hb hE hP 0 rfl rfl dX9_putAt_6 ?_
  refine lv_icmp_ge (tgt := 14) hx hb dX9_putAt_7 (by decide) (fun h => absurd h (by decide)) (fun _ => ?_)
  refine lv_aload_n hx hb dX9_putAt_10 rfl (lv_at hl 0 rfl) ?_
  refine lv_iload_n hx hb dX9_putAt_11 rfl (lv_at hl 1 rfl) ?_
  refine lv_iload_n hx hb dX9_putAt_12 rfl (lv_at hl 2 rfl) ?_
  refine x_iast (ws' := [(q1, .inl (g.2 0, 60, .inl (upd f3 4 x2)))]) hx hb hE hP hD hS 0 rfl 4 (x_in (by decide)) (by decide) dX9_putAt_13 rfl (fun H locs hP hD hS => ?_)
  exact x_vret hx hb hr hlocks hP hD hS hAe hsz (Nat.le_of_ble_eq_true rfl) (Nat.le_of_ble_eq_true rfl) (fun _ => 0) [0] (by decide) rfl dX9_putAt_14

set_option maxHeartbeats 4000000 in
set_option maxRecDepth 100000 in
theorem c1501_X6_putClip (l : Launch) (g : gG) (q1 q14 : Nat) (x2 x3 x4 x5 x6 : Int32) (w7 w8 w10 w12 w13 : Value) (f15 : Nat → Int32) (sz : Nat) : Met l yX6_putClip [Cond.code yX6_putClip cX6_putClip 7 none] ({ frames := 1, cells := 0, slots := 0, locals := 22 } : Room) (va_Pc [.ref q1, .int x2, .int x3, .int x4, .int x5, .int x6] (PX g sz [(q14, .inl (g.2 0, 60, .inl f15)), (q1, .inr (8, [w7, w8, .ref q14, w10, .int 0, w12, w13]))])) (QV g [(q14, .inl (g.2 0, 60, .inl f15)), (q1, .inr (8, [w7, w8, .ref q14, w10, .int 0, w12, w13]))] sz (fun _ => [(q1, .inr (8, [w7, w8, .ref q14, w10, .int 1, w12, w13])), (q14, .inl (g.2 0, 60, .inl (upd (upd (upd (upd (upd f15 0 x2) 1 x3) 2 x4) 3 x5) 4 x6)))])) 0 0 (va_A [(q14, .inl (g.2 0, 60, .inl f15)), (q1, .inr (8, [w7, w8, .ref q14, w10, .int 0, w12, w13]))] sz) := by
  refine ofN (by decide) (Nat.le_of_ble_eq_true rfl) rfl ?_
  intro p e s m args below meth c A ls hAe hsz hx hb hml hr hlocks hin hown hE hP hD hA hS hl
  have hown : s.vm.findClass RX6 = some m.cls := hown
  refine lv_aload_n hx hb dX6_putClip_0 rfl (lv_at hl 0 rfl) ?_
  refine gf_RX6_37 hx hb hown hE hP 1 rfl rfl dX6_putClip_1 ?_
  refine lv_iconst (v := 5) hx hb dX6_putClip_4 (by decide) ?_
  refine x_imul (v := 0) hx hb dX6_putClip_5 (by decide) ?_
  refine lv_istore (lv' := [(6, .int 0), (0, .ref q1), (1, .int x2), (2, .int x3), (3, .int x4), (4, .int x5), (5, .int x6)]) hx hb dX6_putClip_6 hl (by decide) rfl (fun ls hl => ?_)
  refine lv_aload_n hx hb dX6_putClip_8 rfl (lv_at hl 1 rfl) ?_
  refine gf_RX6_25 hx hb hown hE hP 1 rfl rfl dX6_putClip_9 ?_
  refine lv_iload hx hb dX6_putClip_12 (lv_at hl 0 rfl) ?_
  refine lv_iconst (v := 0) hx hb dX6_putClip_14 (by decide) ?_
  refine x_iadd (v := 0) hx hb dX6_putClip_15 (by decide) ?_
  refine lv_iload_n hx hb dX6_putClip_16 rfl (lv_at hl 2 rfl) ?_
  refine g_v (wr := [(q1, .inr (8, [w7, w8, .ref q14, w10, .int 0, w12, w13]))]) (rSN (rest := []) hx hb hml hown hE hP hD (c1496_X9_putAt l g q14 x2 f15 s.heap.size) (kSN_X9_putAt hE (e107 hE) rfl rfl ⟨(Nat.le_of_ble_eq_true rfl), (Nat.le_of_ble_eq_true rfl)⟩) [0] rfl (by decide) rfl hl.1 rfl (lv_room (Nat.le_of_ble_eq_true rfl)) dX6_putClip_17 ⟨(Nat.le_of_ble_eq_true rfl), (Nat.le_of_ble_eq_true rfl)⟩) hP hD hS hA [0] [1] rfl rfl (by decide) (by decide) (fun u1 H locs hP hD hS => ?_)
  have hP : va_P g.1 vwCl [(q1, .inr (8, [w7, w8, .ref q14, w10, .int 0, w12, w13])), (q14, .inl (g.2 0, 60, .inl (upd f15 0 x2)))] H := hP
  have hD : va_D A [(q1, .inr (8, [w7, w8, .ref q14, w10, .int 0, w12, w13])), (q14, .inl (g.2 0, 60, .inl (upd f15 0 x2)))] := hD
  refine lv_aload_n hx hb dX6_putClip_20 rfl (lv_at hl 1 rfl) ?_
  refine gf_RX6_25 hx hb hown hE hP 0 rfl rfl dX6_putClip_21 ?_
  refine lv_iload hx hb dX6_putClip_24 (lv_at hl 0 rfl) ?_
  refine lv_iconst (v := 1) hx hb dX6_putClip_26 (by decide) ?_
  refine x_iadd (v := 1) hx hb dX6_putClip_27 (by decide) ?_
  refine lv_iload_n hx hb dX6_putClip_28 rfl (lv_at hl 3 rfl) ?_
  refine g_v (wr := [(q1, .inr (8, [w7, w8, .ref q14, w10, .int 0, w12, w13]))]) (rSN (rest := []) hx hb hml hown hE hP hD (c1497_X9_putAt l g q14 x3 (upd f15 0 x2) H.size) (kSN_X9_putAt hE (e107 hE) rfl rfl ⟨(Nat.le_of_ble_eq_true rfl), (Nat.le_of_ble_eq_true rfl)⟩) [1] rfl (by decide) rfl hl.1 rfl (lv_room (Nat.le_of_ble_eq_true rfl)) dX6_putClip_29 ⟨(Nat.le_of_ble_eq_true rfl), (Nat.le_of_ble_eq_true rfl)⟩) hP hD hS hA [1] [0] rfl rfl (by decide) (by decide) (fun u2 H locs hP hD hS => ?_)
  have hP : va_P g.1 vwCl [(q1, .inr (8, [w7, w8, .ref q14, w10, .int 0, w12, w13])), (q14, .inl (g.2 0, 60, .inl (upd (upd f15 0 x2) 1 x3)))] H := hP
  have hD : va_D A [(q1, .inr (8, [w7, w8, .ref q14, w10, .int 0, w12, w13])), (q14, .inl (g.2 0, 60, .inl (upd (upd f15 0 x2) 1 x3)))] := hD
  refine lv_aload_n hx hb dX6_putClip_32 rfl (lv_at hl 1 rfl) ?_
  refine gf_RX6_25 hx hb hown hE hP 0 rfl rfl dX6_putClip_33 ?_
  refine lv_iload hx hb dX6_putClip_36 (lv_at hl 0 rfl) ?_
  refine lv_iconst (v := 2) hx hb dX6_putClip_38 (by decide) ?_
  refine x_iadd (v := 2) hx hb dX6_putClip_39 (by decide) ?_
  refine lv_iload_n hx hb dX6_putClip_40 rfl (lv_at hl 4 rfl) ?_
  refine g_v (wr := [(q1, .inr (8, [w7, w8, .ref q14, w10, .int 0, w12, w13]))]) (rSN (rest := []) hx hb hml hown hE hP hD (c1498_X9_putAt l g q14 x4 (upd (upd f15 0 x2) 1 x3) H.size) (kSN_X9_putAt hE (e107 hE) rfl rfl ⟨(Nat.le_of_ble_eq_true rfl), (Nat.le_of_ble_eq_true rfl)⟩) [1] rfl (by decide) rfl hl.1 rfl (lv_room (Nat.le_of_ble_eq_true rfl)) dX6_putClip_41 ⟨(Nat.le_of_ble_eq_true rfl), (Nat.le_of_ble_eq_true rfl)⟩) hP hD hS hA [1] [0] rfl rfl (by decide) (by decide) (fun u3 H locs hP hD hS => ?_)
  have hP : va_P g.1 vwCl [(q1, .inr (8, [w7, w8, .ref q14, w10, .int 0, w12, w13])), (q14, .inl (g.2 0, 60, .inl (upd (upd (upd f15 0 x2) 1 x3) 2 x4)))] H := hP
  have hD : va_D A [(q1, .inr (8, [w7, w8, .ref q14, w10, .int 0, w12, w13])), (q14, .inl (g.2 0, 60, .inl (upd (upd (upd f15 0 x2) 1 x3) 2 x4)))] := hD
  refine lv_aload_n hx hb dX6_putClip_44 rfl (lv_at hl 1 rfl) ?_
  refine gf_RX6_25 hx hb hown hE hP 0 rfl rfl dX6_putClip_45 ?_
  refine lv_iload hx hb dX6_putClip_48 (lv_at hl 0 rfl) ?_
  refine lv_iconst (v := 3) hx hb dX6_putClip_50 (by decide) ?_
  refine x_iadd (v := 3) hx hb dX6_putClip_51 (by decide) ?_
  refine lv_iload hx hb dX6_putClip_52 (lv_at hl 5 rfl) ?_
  refine g_v (wr := [(q1, .inr (8, [w7, w8, .ref q14, w10, .int 0, w12, w13]))]) (rSN (rest := []) hx hb hml hown hE hP hD (c1499_X9_putAt l g q14 x5 (upd (upd (upd f15 0 x2) 1 x3) 2 x4) H.size) (kSN_X9_putAt hE (e107 hE) rfl rfl ⟨(Nat.le_of_ble_eq_true rfl), (Nat.le_of_ble_eq_true rfl)⟩) [1] rfl (by decide) rfl hl.1 rfl (lv_room (Nat.le_of_ble_eq_true rfl)) dX6_putClip_54 ⟨(Nat.le_of_ble_eq_true rfl), (Nat.le_of_ble_eq_true rfl)⟩) hP hD hS hA [1] [0] rfl rfl (by decide) (by decide) (fun u4 H locs hP hD hS => ?_)
  have hP : va_P g.1 vwCl [(q1, .inr (8, [w7, w8, .ref q14, w10, .int 0, w12, w13])), (q14, .inl (g.2 0, 60, .inl (upd (upd (upd (upd f15 0 x2) 1 x3) 2 x4) 3 x5)))] H := hP
  have hD : va_D A [(q1, .inr (8, [w7, w8, .ref q14, w10, .int 0, w12, w13])), (q14, .inl (g.2 0, 60, .inl (upd (upd (upd (upd f15 0 x2) 1 x3) 2 x4) 3 x5)))] := hD
  refine lv_aload_n hx hb dX6_putClip_57 rfl (lv_at hl 1 rfl) ?_
  refine gf_RX6_25 hx hb hown hE hP 0 rfl rfl dX6_putClip_58 ?_
  refine lv_iload hx hb dX6_putClip_61 (lv_at hl 0 rfl) ?_
  refine lv_iconst (v := 4) hx hb dX6_putClip_63 (by decide) ?_
  refine x_iadd (v := 4) hx hb dX6_putClip_64 (by decide) ?_
  refine lv_iload hx hb dX6_putClip_65 (lv_at hl 6 rfl) ?_
  refine g_v (wr := [(q1, .inr (8, [w7, w8, .ref q14, w10, .int 0, w12, w13]))]) (rSN (rest := []) hx hb hml hown hE hP hD (c1500_X9_putAt l g q14 x6 (upd (upd (upd (upd f15 0 x2) 1 x3) 2 x4) 3 x5) H.size) (kSN_X9_putAt hE (e107 hE) rfl rfl ⟨(Nat.le_of_ble_eq_true rfl), (Nat.le_of_ble_eq_true rfl)⟩) [1] rfl (by decide) rfl hl.1 rfl (lv_room (Nat.le_of_ble_eq_true rfl)) dX6_putClip_67 ⟨(Nat.le_of_ble_eq_true rfl), (Nat.le_of_ble_eq_true rfl)⟩) hP hD hS hA [1] [0] rfl rfl (by decide) (by decide) (fun u5 H locs hP hD hS => ?_)
  have hP : va_P g.1 vwCl [(q1, .inr (8, [w7, w8, .ref q14, w10, .int 0, w12, w13])), (q14, .inl (g.2 0, 60, .inl (upd (upd (upd (upd (upd f15 0 x2) 1 x3) 2 x4) 3 x5) 4 x6)))] H := hP
  have hD : va_D A [(q1, .inr (8, [w7, w8, .ref q14, w10, .int 0, w12, w13])), (q14, .inl (g.2 0, 60, .inl (upd (upd (upd (upd (upd f15 0 x2) 1 x3) 2 x4) 3 x5) 4 x6)))] := hD
  refine lv_aload_n hx hb dX6_putClip_70 rfl (lv_at hl 1 rfl) ?_
  refine lv_dup hx hb dX6_putClip_71 rfl ?_
  refine gf_RX6_37 hx hb hown hE hP 0 rfl rfl dX6_putClip_72 ?_
  refine lv_iconst (v := 1) hx hb dX6_putClip_75 (by decide) ?_
  refine x_iadd (v := 1) hx hb dX6_putClip_76 (by decide) ?_
  refine pf_RX6_37 (ws' := [(q1, .inr (8, [w7, w8, .ref q14, w10, .int 1, w12, w13])), (q14, .inl (g.2 0, 60, .inl (upd (upd (upd (upd (upd f15 0 x2) 1 x3) 2 x4) 3 x5) 4 x6)))]) hx hb hown hE hP hD hS 0 rfl rfl rfl (Nat.le_of_ble_eq_true rfl) dX6_putClip_77 rfl (fun H locs hP hD hS => ?_)
  exact x_vret hx hb hr hlocks hP hD hS hAe hsz (Nat.le_of_ble_eq_true rfl) (Nat.le_of_ble_eq_true rfl) (fun _ => 0) [0, 1] (by decide) rfl dX6_putClip_80

set_option maxHeartbeats 4000000 in
set_option maxRecDepth 100000 in
theorem c1502_X3_measure (l : Launch) (g : gG) (q1 q4 q5 : Nat) (f6 : Nat → Int32) (hf7 : f6 0 = 0) (hf8 : f6 2 = 0) (hf9 : f6 3 = 0) (hf10 : f6 5 = 0) (hf11 : f6 6 = 0) (hf12 : f6 7 = 0) (hf13 : f6 8 = 0) (hf14 : f6 10 = 0) (hf15 : f6 11 = 0) (hf16 : f6 12 = 0) (hf17 : f6 13 = 0) (hf18 : f6 15 = 0) (hf19 : f6 16 = 0) (hf20 : f6 17 = 0) (hf21 : f6 18 = 0) (hf22 : f6 20 = 0) (hf23 : f6 21 = 0) (hf24 : f6 22 = 0) (hf25 : f6 23 = 0) (hf26 : f6 25 = 0) (hf27 : f6 26 = 0) (hf28 : f6 27 = 0) (hf29 : f6 28 = 0) (hf30 : f6 30 = 0) (hf31 : f6 31 = 0) (hf32 : f6 32 = 0) (hf33 : f6 33 = 0) (hf34 : f6 35 = 0) (hf35 : f6 36 = 0) (hf36 : f6 37 = 0) (hf37 : f6 38 = 0) (sz : Nat) : Met l yX3_measure [Cond.code yX3_measure cX3_measure 2 (some .boolean)] ({ frames := 2, cells := 0, slots := 0, locals := 52 } : Room) (va_Pc [.ref q1] (PX g sz [(q5, .inl (g.2 0, 40, .inl f6)), (q1, .inr (5, [.ref q4, .ref q5]))])) (QI g [(q5, .inl (g.2 0, 40, .inl f6)), (q1, .inr (5, [.ref q4, .ref q5]))] sz 1 (fun _ => [(q5, .inl (g.2 0, 40, .inl (upd (upd (upd (upd (upd (upd (upd (upd (upd f6 1 0) 4 1) 9 1) 14 1) 19 1) 24 1) 29 1) 34 1) 39 1))), (q1, .inr (5, [.ref q4, .ref q5]))])) 0 0 (va_A [(q5, .inl (g.2 0, 40, .inl f6)), (q1, .inr (5, [.ref q4, .ref q5]))] sz) := by
  refine ofN (by decide) (Nat.le_of_ble_eq_true rfl) rfl ?_
  intro p e s m args below meth c A ls hAe hsz hx hb hml hr hlocks hin hown hE hP hD hA hS hl
  have hown : s.vm.findClass RX3 = some m.cls := hown
  refine lv_iconst (v := 0) hx hb dX3_measure_0 (by decide) ?_
  refine lv_istore_n (lv' := [(1, .int 0), (0, .ref q1)]) hx hb dX3_measure_1 rfl hl (by decide) rfl (fun ls hl => ?_)
  refine lv_iload_n hx hb dX3_measure_2 rfl (lv_at hl 0 rfl) ?_
  refine lv_bipush (v := 8) hx hb dX3_measure_3 (by decide) ?_
  refine lv_icmp_ge (tgt := 33) hx hb dX3_measure_5 (by decide) (fun h => absurd h (by decide)) (fun _ => ?_)
  refine lv_aload_n hx hb dX3_measure_8 rfl (lv_at hl 1 rfl) ?_
  refine lv_iload_n hx hb dX3_measure_9 rfl (lv_at hl 0 rfl) ?_
  refine g_v (wr := []) (rV (rest := []) hx hb hml hown hE hP hD 1 rfl rfl (c231_X3_measureOne l g q1 q5 (.ref q4) f6 (hf7) (hf8) (hf9) s.heap.size) (kV_X3_measureOne hE (e698 hE) rfl rfl ⟨(Nat.le_of_ble_eq_true rfl), (Nat.le_of_ble_eq_true rfl)⟩) [0, 1] rfl (by decide) rfl hl.1 rfl (lv_room (Nat.le_of_ble_eq_true rfl)) dX3_measure_10 ⟨(Nat.le_of_ble_eq_true rfl), (Nat.le_of_ble_eq_true rfl)⟩) hP hD hS hA [0, 1] [] rfl rfl (by decide) (by decide) (fun u1 H locs hP hD hS => ?_)
  have hP : va_P g.1 vwCl [(q5, .inl (g.2 0, 40, .inl (upd (upd f6 1 0) 4 1))), (q1, .inr (5, [.ref q4, .ref q5]))] H := hP
  have hD : va_D A [(q5, .inl (g.2 0, 40, .inl (upd (upd f6 1 0) 4 1))), (q1, .inr (5, [.ref q4, .ref q5]))] := hD
  refine lv_aload_n hx hb dX3_measure_13 rfl (lv_at hl 1 rfl) ?_
  refine lv_iload_n hx hb dX3_measure_14 rfl (lv_at hl 0 rfl) ?_
  refine lv_iconst (v := 1) hx hb dX3_measure_15 (by decide) ?_
  refine g_i (wr := []) (rV (rest := []) hx hb hml hown hE hP hD 1 rfl rfl (c145_X3_figure l g q1 q5 0 (.ref q4) (upd (upd f6 1 0) 4 1) (((pk_un (by decide)).trans pk_us)) H.size) (kV_X3_figure hE (e343 hE) rfl rfl ⟨(Nat.le_of_ble_eq_true rfl), (Nat.le_of_ble_eq_true rfl)⟩) [0, 1] rfl (by decide) rfl hl.1 rfl (lv_room (Nat.le_of_ble_eq_true rfl)) dX3_measure_16 ⟨(Nat.le_of_ble_eq_true rfl), (Nat.le_of_ble_eq_true rfl)⟩) hP hD hS hA [0, 1] [] rfl rfl (by decide) (by decide) (fun u2 H locs hP hD hS => ?_)
  have hP : va_P g.1 vwCl [(q5, .inl (g.2 0, 40, .inl (upd (upd f6 1 0) 4 1))), (q1, .inr (5, [.ref q4, .ref q5]))] H := hP
  have hD : va_D A [(q5, .inl (g.2 0, 40, .inl (upd (upd f6 1 0) 4 1))), (q1, .inr (5, [.ref q4, .ref q5]))] := hD
  refine lv_sipush (v := 20000) hx hb dX3_measure_19 (by decide) ?_
  refine lv_icmp_le (tgt := 27) hx hb dX3_measure_22 (by decide) (fun _ => ?_) (fun h => absurd (by decide) h)
  refine lv_iinc (v := 1) (lv' := [(1, .int 1), (0, .ref q1)]) hx hb dX3_measure_27 hl (k := 0) rfl (by decide) (by decide) rfl (fun ls hl => ?_)
  refine lv_goto (tgt := 2) hx hb dX3_measure_30 (by decide) ?_
  refine lv_iload_n hx hb dX3_measure_2 rfl (lv_at hl 0 rfl) ?_
  refine lv_bipush (v := 8) hx hb dX3_measure_3 (by decide) ?_
  refine lv_icmp_ge (tgt := 33) hx hb dX3_measure_5 (by decide) (fun h => absurd h (by decide)) (fun _ => ?_)
  refine lv_aload_n hx hb dX3_measure_8 rfl (lv_at hl 1 rfl) ?_
  refine lv_iload_n hx hb dX3_measure_9 rfl (lv_at hl 0 rfl) ?_
  refine g_v (wr := []) (rV (rest := []) hx hb hml hown hE hP hD 1 rfl rfl (c150_X3_measureOne l g q1 q5 (.ref q4) (upd (upd f6 1 0) 4 1) (((pk_un (by decide)).trans ((pk_un (by decide)).trans hf10))) (((pk_un (by decide)).trans ((pk_un (by decide)).trans hf11))) (((pk_un (by decide)).trans ((pk_un (by decide)).trans hf12))) (((pk_un (by decide)).trans ((pk_un (by decide)).trans hf13))) H.size) (kV_X3_measureOne hE (e698 hE) rfl rfl ⟨(Nat.le_of_ble_eq_true rfl), (Nat.le_of_ble_eq_true rfl)⟩) [0, 1] rfl (by decide) rfl hl.1 rfl (lv_room (Nat.le_of_ble_eq_true rfl)) dX3_measure_10 ⟨(Nat.le_of_ble_eq_true rfl), (Nat.le_of_ble_eq_true rfl)⟩) hP hD hS hA [0, 1] [] rfl rfl (by decide) (by decide) (fun u3 H locs hP hD hS => ?_)
  have hP : va_P g.1 vwCl [(q5, .inl (g.2 0, 40, .inl (upd (upd (upd f6 1 0) 4 1) 9 1))), (q1, .inr (5, [.ref q4, .ref q5]))] H := hP
  have hD : va_D A [(q5, .inl (g.2 0, 40, .inl (upd (upd (upd f6 1 0) 4 1) 9 1))), (q1, .inr (5, [.ref q4, .ref q5]))] := hD
  refine lv_aload_n hx hb dX3_measure_13 rfl (lv_at hl 1 rfl) ?_
  refine lv_iload_n hx hb dX3_measure_14 rfl (lv_at hl 0 rfl) ?_
  refine lv_iconst (v := 1) hx hb dX3_measure_15 (by decide) ?_
  refine g_i (wr := []) (rV (rest := []) hx hb hml hown hE hP hD 1 rfl rfl (c151_X3_figure l g q1 q5 (.ref q4) (upd (upd (upd f6 1 0) 4 1) 9 1) (((pk_un (by decide)).trans ((pk_un (by decide)).trans ((pk_un (by decide)).trans hf11)))) H.size) (kV_X3_figure hE (e343 hE) rfl rfl ⟨(Nat.le_of_ble_eq_true rfl), (Nat.le_of_ble_eq_true rfl)⟩) [0, 1] rfl (by decide) rfl hl.1 rfl (lv_room (Nat.le_of_ble_eq_true rfl)) dX3_measure_16 ⟨(Nat.le_of_ble_eq_true rfl), (Nat.le_of_ble_eq_true rfl)⟩) hP hD hS hA [0, 1] [] rfl rfl (by decide) (by decide) (fun u4 H locs hP hD hS => ?_)
  have hP : va_P g.1 vwCl [(q5, .inl (g.2 0, 40, .inl (upd (upd (upd f6 1 0) 4 1) 9 1))), (q1, .inr (5, [.ref q4, .ref q5]))] H := hP
  have hD : va_D A [(q5, .inl (g.2 0, 40, .inl (upd (upd (upd f6 1 0) 4 1) 9 1))), (q1, .inr (5, [.ref q4, .ref q5]))] := hD
  refine lv_sipush (v := 20000) hx hb dX3_measure_19 (by decide) ?_
  refine lv_icmp_le (tgt := 27) hx hb dX3_measure_22 (by decide) (fun _ => ?_) (fun h => absurd (by decide) h)
  refine lv_iinc (v := 2) (lv' := [(1, .int 2), (0, .ref q1)]) hx hb dX3_measure_27 hl (k := 0) rfl (by decide) (by decide) rfl (fun ls hl => ?_)
  refine lv_goto (tgt := 2) hx hb dX3_measure_30 (by decide) ?_
  refine lv_iload_n hx hb dX3_measure_2 rfl (lv_at hl 0 rfl) ?_
  refine lv_bipush (v := 8) hx hb dX3_measure_3 (by decide) ?_
  refine lv_icmp_ge (tgt := 33) hx hb dX3_measure_5 (by decide) (fun h => absurd h (by decide)) (fun _ => ?_)
  refine lv_aload_n hx hb dX3_measure_8 rfl (lv_at hl 1 rfl) ?_
  refine lv_iload_n hx hb dX3_measure_9 rfl (lv_at hl 0 rfl) ?_
  refine g_v (wr := []) (rV (rest := []) hx hb hml hown hE hP hD 1 rfl rfl (c156_X3_measureOne l g q1 q5 (.ref q4) (upd (upd (upd f6 1 0) 4 1) 9 1) (((pk_un (by decide)).trans ((pk_un (by decide)).trans ((pk_un (by decide)).trans hf14)))) (((pk_un (by decide)).trans ((pk_un (by decide)).trans ((pk_un (by decide)).trans hf15)))) (((pk_un (by decide)).trans ((pk_un (by decide)).trans ((pk_un (by decide)).trans hf16)))) (((pk_un (by decide)).trans ((pk_un (by decide)).trans ((pk_un (by decide)).trans hf17)))) H.size) (kV_X3_measureOne hE (e698 hE) rfl rfl ⟨(Nat.le_of_ble_eq_true rfl), (Nat.le_of_ble_eq_true rfl)⟩) [0, 1] rfl (by decide) rfl hl.1 rfl (lv_room (Nat.le_of_ble_eq_true rfl)) dX3_measure_10 ⟨(Nat.le_of_ble_eq_true rfl), (Nat.le_of_ble_eq_true rfl)⟩) hP hD hS hA [0, 1] [] rfl rfl (by decide) (by decide) (fun u5 H locs hP hD hS => ?_)
  have hP : va_P g.1 vwCl [(q5, .inl (g.2 0, 40, .inl (upd (upd (upd (upd f6 1 0) 4 1) 9 1) 14 1))), (q1, .inr (5, [.ref q4, .ref q5]))] H := hP
  have hD : va_D A [(q5, .inl (g.2 0, 40, .inl (upd (upd (upd (upd f6 1 0) 4 1) 9 1) 14 1))), (q1, .inr (5, [.ref q4, .ref q5]))] := hD
  refine lv_aload_n hx hb dX3_measure_13 rfl (lv_at hl 1 rfl) ?_
  refine lv_iload_n hx hb dX3_measure_14 rfl (lv_at hl 0 rfl) ?_
  refine lv_iconst (v := 1) hx hb dX3_measure_15 (by decide) ?_
  refine g_i (wr := []) (rV (rest := []) hx hb hml hown hE hP hD 1 rfl rfl (c157_X3_figure l g q1 q5 (.ref q4) (upd (upd (upd (upd f6 1 0) 4 1) 9 1) 14 1) (((pk_un (by decide)).trans ((pk_un (by decide)).trans ((pk_un (by decide)).trans ((pk_un (by decide)).trans hf15))))) H.size) (kV_X3_figure hE (e343 hE) rfl rfl ⟨(Nat.le_of_ble_eq_true rfl), (Nat.le_of_ble_eq_true rfl)⟩) [0, 1] rfl (by decide) rfl hl.1 rfl (lv_room (Nat.le_of_ble_eq_true rfl)) dX3_measure_16 ⟨(Nat.le_of_ble_eq_true rfl), (Nat.le_of_ble_eq_true rfl)⟩) hP hD hS hA [0, 1] [] rfl rfl (by decide) (by decide) (fun u6 H locs hP hD hS => ?_)
  have hP : va_P g.1 vwCl [(q5, .inl (g.2 0, 40, .inl (upd (upd (upd (upd f6 1 0) 4 1) 9 1) 14 1))), (q1, .inr (5, [.ref q4, .ref q5]))] H := hP
  have hD : va_D A [(q5, .inl (g.2 0, 40, .inl (upd (upd (upd (upd f6 1 0) 4 1) 9 1) 14 1))), (q1, .inr (5, [.ref q4, .ref q5]))] := hD
  refine lv_sipush (v := 20000) hx hb dX3_measure_19 (by decide) ?_
  refine lv_icmp_le (tgt := 27) hx hb dX3_measure_22 (by decide) (fun _ => ?_) (fun h => absurd (by decide) h)
  refine lv_iinc (v := 3) (lv' := [(1, .int 3), (0, .ref q1)]) hx hb dX3_measure_27 hl (k := 0) rfl (by decide) (by decide) rfl (fun ls hl => ?_)
  refine lv_goto (tgt := 2) hx hb dX3_measure_30 (by decide) ?_
  refine lv_iload_n hx hb dX3_measure_2 rfl (lv_at hl 0 rfl) ?_
  refine lv_bipush (v := 8) hx hb dX3_measure_3 (by decide) ?_
  refine lv_icmp_ge (tgt := 33) hx hb dX3_measure_5 (by decide) (fun h => absurd h (by decide)) (fun _ => ?_)
  refine lv_aload_n hx hb dX3_measure_8 rfl (lv_at hl 1 rfl) ?_
  refine lv_iload_n hx hb dX3_measure_9 rfl (lv_at hl 0 rfl) ?_
  refine g_v (wr := []) (rV (rest := []) hx hb hml hown hE hP hD 1 rfl rfl (c162_X3_measureOne l g q1 q5 (.ref q4) (upd (upd (upd (upd f6 1 0) 4 1) 9 1) 14 1) (((pk_un (by decide)).trans ((pk_un (by decide)).trans ((pk_un (by decide)).trans ((pk_un (by decide)).trans hf18))))) (((pk_un (by decide)).trans ((pk_un (by decide)).trans ((pk_un (by decide)).trans ((pk_un (by decide)).trans hf19))))) (((pk_un (by decide)).trans ((pk_un (by decide)).trans ((pk_un (by decide)).trans ((pk_un (by decide)).trans hf20))))) (((pk_un (by decide)).trans ((pk_un (by decide)).trans ((pk_un (by decide)).trans ((pk_un (by decide)).trans hf21))))) H.size) (kV_X3_measureOne hE (e698 hE) rfl rfl ⟨(Nat.le_of_ble_eq_true rfl), (Nat.le_of_ble_eq_true rfl)⟩) [0, 1] rfl (by decide) rfl hl.1 rfl (lv_room (Nat.le_of_ble_eq_true rfl)) dX3_measure_10 ⟨(Nat.le_of_ble_eq_true rfl), (Nat.le_of_ble_eq_true rfl)⟩) hP hD hS hA [0, 1] [] rfl rfl (by decide) (by decide) (fun u7 H locs hP hD hS => ?_)
  have hP : va_P g.1 vwCl [(q5, .inl (g.2 0, 40, .inl (upd (upd (upd (upd (upd f6 1 0) 4 1) 9 1) 14 1) 19 1))), (q1, .inr (5, [.ref q4, .ref q5]))] H := hP
  have hD : va_D A [(q5, .inl (g.2 0, 40, .inl (upd (upd (upd (upd (upd f6 1 0) 4 1) 9 1) 14 1) 19 1))), (q1, .inr (5, [.ref q4, .ref q5]))] := hD
  refine lv_aload_n hx hb dX3_measure_13 rfl (lv_at hl 1 rfl) ?_
  refine lv_iload_n hx hb dX3_measure_14 rfl (lv_at hl 0 rfl) ?_
  refine lv_iconst (v := 1) hx hb dX3_measure_15 (by decide) ?_
  refine g_i (wr := []) (rV (rest := []) hx hb hml hown hE hP hD 1 rfl rfl (c163_X3_figure l g q1 q5 (.ref q4) (upd (upd (upd (upd (upd f6 1 0) 4 1) 9 1) 14 1) 19 1) (((pk_un (by decide)).trans ((pk_un (by decide)).trans ((pk_un (by decide)).trans ((pk_un (by decide)).trans ((pk_un (by decide)).trans hf19)))))) H.size) (kV_X3_figure hE (e343 hE) rfl rfl ⟨(Nat.le_of_ble_eq_true rfl), (Nat.le_of_ble_eq_true rfl)⟩) [0, 1] rfl (by decide) rfl hl.1 rfl (lv_room (Nat.le_of_ble_eq_true rfl)) dX3_measure_16 ⟨(Nat.le_of_ble_eq_true rfl), (Nat.le_of_ble_eq_true rfl)⟩) hP hD hS hA [0, 1] [] rfl rfl (by decide) (by decide) (fun u8 H locs hP hD hS => ?_)
  have hP : va_P g.1 vwCl [(q5, .inl (g.2 0, 40, .inl (upd (upd (upd (upd (upd f6 1 0) 4 1) 9 1) 14 1) 19 1))), (q1, .inr (5, [.ref q4, .ref q5]))] H := hP
  have hD : va_D A [(q5, .inl (g.2 0, 40, .inl (upd (upd (upd (upd (upd f6 1 0) 4 1) 9 1) 14 1) 19 1))), (q1, .inr (5, [.ref q4, .ref q5]))] := hD
  refine lv_sipush (v := 20000) hx hb dX3_measure_19 (by decide) ?_
  refine lv_icmp_le (tgt := 27) hx hb dX3_measure_22 (by decide) (fun _ => ?_) (fun h => absurd (by decide) h)
  refine lv_iinc (v := 4) (lv' := [(1, .int 4), (0, .ref q1)]) hx hb dX3_measure_27 hl (k := 0) rfl (by decide) (by decide) rfl (fun ls hl => ?_)
  refine lv_goto (tgt := 2) hx hb dX3_measure_30 (by decide) ?_
  refine lv_iload_n hx hb dX3_measure_2 rfl (lv_at hl 0 rfl) ?_
  refine lv_bipush (v := 8) hx hb dX3_measure_3 (by decide) ?_
  refine lv_icmp_ge (tgt := 33) hx hb dX3_measure_5 (by decide) (fun h => absurd h (by decide)) (fun _ => ?_)
  refine lv_aload_n hx hb dX3_measure_8 rfl (lv_at hl 1 rfl) ?_
  refine lv_iload_n hx hb dX3_measure_9 rfl (lv_at hl 0 rfl) ?_
  refine g_v (wr := []) (rV (rest := []) hx hb hml hown hE hP hD 1 rfl rfl (c168_X3_measureOne l g q1 q5 (.ref q4) (upd (upd (upd (upd (upd f6 1 0) 4 1) 9 1) 14 1) 19 1) (((pk_un (by decide)).trans ((pk_un (by decide)).trans ((pk_un (by decide)).trans ((pk_un (by decide)).trans ((pk_un (by decide)).trans hf22)))))) (((pk_un (by decide)).trans ((pk_un (by decide)).trans ((pk_un (by decide)).trans ((pk_un (by decide)).trans ((pk_un (by decide)).trans hf23)))))) (((pk_un (by decide)).trans ((pk_un (by decide)).trans ((pk_un (by decide)).trans ((pk_un (by decide)).trans ((pk_un (by decide)).trans hf24)))))) (((pk_un (by decide)).trans ((pk_un (by decide)).trans ((pk_un (by decide)).trans ((pk_un (by decide)).trans ((pk_un (by decide)).trans hf25)))))) H.size) (kV_X3_measureOne hE (e698 hE) rfl rfl ⟨(Nat.le_of_ble_eq_true rfl), (Nat.le_of_ble_eq_true rfl)⟩) [0, 1] rfl (by decide) rfl hl.1 rfl (lv_room (Nat.le_of_ble_eq_true rfl)) dX3_measure_10 ⟨(Nat.le_of_ble_eq_true rfl), (Nat.le_of_ble_eq_true rfl)⟩) hP hD hS hA [0, 1] [] rfl rfl (by decide) (by decide) (fun u9 H locs hP hD hS => ?_)
  have hP : va_P g.1 vwCl [(q5, .inl (g.2 0, 40, .inl (upd (upd (upd (upd (upd (upd f6 1 0) 4 1) 9 1) 14 1) 19 1) 24 1))), (q1, .inr (5, [.ref q4, .ref q5]))] H := hP
  have hD : va_D A [(q5, .inl (g.2 0, 40, .inl (upd (upd (upd (upd (upd (upd f6 1 0) 4 1) 9 1) 14 1) 19 1) 24 1))), (q1, .inr (5, [.ref q4, .ref q5]))] := hD
  refine lv_aload_n hx hb dX3_measure_13 rfl (lv_at hl 1 rfl) ?_
  refine lv_iload_n hx hb dX3_measure_14 rfl (lv_at hl 0 rfl) ?_
  refine lv_iconst (v := 1) hx hb dX3_measure_15 (by decide) ?_
  refine g_i (wr := []) (rV (rest := []) hx hb hml hown hE hP hD 1 rfl rfl (c169_X3_figure l g q1 q5 (.ref q4) (upd (upd (upd (upd (upd (upd f6 1 0) 4 1) 9 1) 14 1) 19 1) 24 1) (((pk_un (by decide)).trans ((pk_un (by decide)).trans ((pk_un (by decide)).trans ((pk_un (by decide)).trans ((pk_un (by decide)).trans ((pk_un (by decide)).trans hf23))))))) H.size) (kV_X3_figure hE (e343 hE) rfl rfl ⟨(Nat.le_of_ble_eq_true rfl), (Nat.le_of_ble_eq_true rfl)⟩) [0, 1] rfl (by decide) rfl hl.1 rfl (lv_room (Nat.le_of_ble_eq_true rfl)) dX3_measure_16 ⟨(Nat.le_of_ble_eq_true rfl), (Nat.le_of_ble_eq_true rfl)⟩) hP hD hS hA [0, 1] [] rfl rfl (by decide) (by decide) (fun u10 H locs hP hD hS => ?_)
  have hP : va_P g.1 vwCl [(q5, .inl (g.2 0, 40, .inl (upd (upd (upd (upd (upd (upd f6 1 0) 4 1) 9 1) 14 1) 19 1) 24 1))), (q1, .inr (5, [.ref q4, .ref q5]))] H := hP
  have hD : va_D A [(q5, .inl (g.2 0, 40, .inl (upd (upd (upd (upd (upd (upd f6 1 0) 4 1) 9 1) 14 1) 19 1) 24 1))), (q1, .inr (5, [.ref q4, .ref q5]))] := hD
  refine lv_sipush (v := 20000) hx hb dX3_measure_19 (by decide) ?_
  refine lv_icmp_le (tgt := 27) hx hb dX3_measure_22 (by decide) (fun _ => ?_) (fun h => absurd (by decide) h)
  refine lv_iinc (v := 5) (lv' := [(1, .int 5), (0, .ref q1)]) hx hb dX3_measure_27 hl (k := 0) rfl (by decide) (by decide) rfl (fun ls hl => ?_)
  refine lv_goto (tgt := 2) hx hb dX3_measure_30 (by decide) ?_
  refine lv_iload_n hx hb dX3_measure_2 rfl (lv_at hl 0 rfl) ?_
  refine lv_bipush (v := 8) hx hb dX3_measure_3 (by decide) ?_
  refine lv_icmp_ge (tgt := 33) hx hb dX3_measure_5 (by decide) (fun h => absurd h (by decide)) (fun _ => ?_)
  refine lv_aload_n hx hb dX3_measure_8 rfl (lv_at hl 1 rfl) ?_
  refine lv_iload_n hx hb dX3_measure_9 rfl (lv_at hl 0 rfl) ?_
  refine g_v (wr := []) (rV (rest := []) hx hb hml hown hE hP hD 1 rfl rfl (c174_X3_measureOne l g q1 q5 (.ref q4) (upd (upd (upd (upd (upd (upd f6 1 0) 4 1) 9 1) 14 1) 19 1) 24 1) (((pk_un (by decide)).trans ((pk_un (by decide)).trans ((pk_un (by decide)).trans ((pk_un (by decide)).trans ((pk_un (by decide)).trans ((pk_un (by decide)).trans hf26))))))) (((pk_un (by decide)).trans ((pk_un (by decide)).trans ((pk_un (by decide)).trans ((pk_un (by decide)).trans ((pk_un (by decide)).trans ((pk_un (by decide)).trans hf27))))))) (((pk_un (by decide)).trans ((pk_un (by decide)).trans ((pk_un (by decide)).trans ((pk_un (by decide)).trans ((pk_un (by decide)).trans ((pk_un (by decide)).trans hf28))))))) (((pk_un (by decide)).trans ((pk_un (by decide)).trans ((pk_un (by decide)).trans ((pk_un (by decide)).trans ((pk_un (by decide)).trans ((pk_un (by decide)).trans hf29))))))) H.size) (kV_X3_measureOne hE (e698 hE) rfl rfl ⟨(Nat.le_of_ble_eq_true rfl), (Nat.le_of_ble_eq_true rfl)⟩) [0, 1] rfl (by decide) rfl hl.1 rfl (lv_room (Nat.le_of_ble_eq_true rfl)) dX3_measure_10 ⟨(Nat.le_of_ble_eq_true rfl), (Nat.le_of_ble_eq_true rfl)⟩) hP hD hS hA [0, 1] [] rfl rfl (by decide) (by decide) (fun u11 H locs hP hD hS => ?_)
  have hP : va_P g.1 vwCl [(q5, .inl (g.2 0, 40, .inl (upd (upd (upd (upd (upd (upd (upd f6 1 0) 4 1) 9 1) 14 1) 19 1) 24 1) 29 1))), (q1, .inr (5, [.ref q4, .ref q5]))] H := hP
  have hD : va_D A [(q5, .inl (g.2 0, 40, .inl (upd (upd (upd (upd (upd (upd (upd f6 1 0) 4 1) 9 1) 14 1) 19 1) 24 1) 29 1))), (q1, .inr (5, [.ref q4, .ref q5]))] := hD
  refine lv_aload_n hx hb dX3_measure_13 rfl (lv_at hl 1 rfl) ?_
  refine lv_iload_n hx hb dX3_measure_14 rfl (lv_at hl 0 rfl) ?_
  refine lv_iconst (v := 1) hx hb dX3_measure_15 (by decide) ?_
  refine g_i (wr := []) (rV (rest := []) hx hb hml hown hE hP hD 1 rfl rfl (c175_X3_figure l g q1 q5 (.ref q4) (upd (upd (upd (upd (upd (upd (upd f6 1 0) 4 1) 9 1) 14 1) 19 1) 24 1) 29 1) (((pk_un (by decide)).trans ((pk_un (by decide)).trans ((pk_un (by decide)).trans ((pk_un (by decide)).trans ((pk_un (by decide)).trans ((pk_un (by decide)).trans ((pk_un (by decide)).trans hf27)))))))) H.size) (kV_X3_figure hE (e343 hE) rfl rfl ⟨(Nat.le_of_ble_eq_true rfl), (Nat.le_of_ble_eq_true rfl)⟩) [0, 1] rfl (by decide) rfl hl.1 rfl (lv_room (Nat.le_of_ble_eq_true rfl)) dX3_measure_16 ⟨(Nat.le_of_ble_eq_true rfl), (Nat.le_of_ble_eq_true rfl)⟩) hP hD hS hA [0, 1] [] rfl rfl (by decide) (by decide) (fun u12 H locs hP hD hS => ?_)
  have hP : va_P g.1 vwCl [(q5, .inl (g.2 0, 40, .inl (upd (upd (upd (upd (upd (upd (upd f6 1 0) 4 1) 9 1) 14 1) 19 1) 24 1) 29 1))), (q1, .inr (5, [.ref q4, .ref q5]))] H := hP
  have hD : va_D A [(q5, .inl (g.2 0, 40, .inl (upd (upd (upd (upd (upd (upd (upd f6 1 0) 4 1) 9 1) 14 1) 19 1) 24 1) 29 1))), (q1, .inr (5, [.ref q4, .ref q5]))] := hD
  refine lv_sipush (v := 20000) hx hb dX3_measure_19 (by decide) ?_
  refine lv_icmp_le (tgt := 27) hx hb dX3_measure_22 (by decide) (fun _ => ?_) (fun h => absurd (by decide) h)
  refine lv_iinc (v := 6) (lv' := [(1, .int 6), (0, .ref q1)]) hx hb dX3_measure_27 hl (k := 0) rfl (by decide) (by decide) rfl (fun ls hl => ?_)
  refine lv_goto (tgt := 2) hx hb dX3_measure_30 (by decide) ?_
  refine lv_iload_n hx hb dX3_measure_2 rfl (lv_at hl 0 rfl) ?_
  refine lv_bipush (v := 8) hx hb dX3_measure_3 (by decide) ?_
  refine lv_icmp_ge (tgt := 33) hx hb dX3_measure_5 (by decide) (fun h => absurd h (by decide)) (fun _ => ?_)
  refine lv_aload_n hx hb dX3_measure_8 rfl (lv_at hl 1 rfl) ?_
  refine lv_iload_n hx hb dX3_measure_9 rfl (lv_at hl 0 rfl) ?_
  refine g_v (wr := []) (rV (rest := []) hx hb hml hown hE hP hD 1 rfl rfl (c180_X3_measureOne l g q1 q5 (.ref q4) (upd (upd (upd (upd (upd (upd (upd f6 1 0) 4 1) 9 1) 14 1) 19 1) 24 1) 29 1) (((pk_un (by decide)).trans ((pk_un (by decide)).trans ((pk_un (by decide)).trans ((pk_un (by decide)).trans ((pk_un (by decide)).trans ((pk_un (by decide)).trans ((pk_un (by decide)).trans hf30)))))))) (((pk_un (by decide)).trans ((pk_un (by decide)).trans ((pk_un (by decide)).trans ((pk_un (by decide)).trans ((pk_un (by decide)).trans ((pk_un (by decide)).trans ((pk_un (by decide)).trans hf31)))))))) (((pk_un (by decide)).trans ((pk_un (by decide)).trans ((pk_un (by decide)).trans ((pk_un (by decide)).trans ((pk_un (by decide)).trans ((pk_un (by decide)).trans ((pk_un (by decide)).trans hf32)))))))) (((pk_un (by decide)).trans ((pk_un (by decide)).trans ((pk_un (by decide)).trans ((pk_un (by decide)).trans ((pk_un (by decide)).trans ((pk_un (by decide)).trans ((pk_un (by decide)).trans hf33)))))))) H.size) (kV_X3_measureOne hE (e698 hE) rfl rfl ⟨(Nat.le_of_ble_eq_true rfl), (Nat.le_of_ble_eq_true rfl)⟩) [0, 1] rfl (by decide) rfl hl.1 rfl (lv_room (Nat.le_of_ble_eq_true rfl)) dX3_measure_10 ⟨(Nat.le_of_ble_eq_true rfl), (Nat.le_of_ble_eq_true rfl)⟩) hP hD hS hA [0, 1] [] rfl rfl (by decide) (by decide) (fun u13 H locs hP hD hS => ?_)
  have hP : va_P g.1 vwCl [(q5, .inl (g.2 0, 40, .inl (upd (upd (upd (upd (upd (upd (upd (upd f6 1 0) 4 1) 9 1) 14 1) 19 1) 24 1) 29 1) 34 1))), (q1, .inr (5, [.ref q4, .ref q5]))] H := hP
  have hD : va_D A [(q5, .inl (g.2 0, 40, .inl (upd (upd (upd (upd (upd (upd (upd (upd f6 1 0) 4 1) 9 1) 14 1) 19 1) 24 1) 29 1) 34 1))), (q1, .inr (5, [.ref q4, .ref q5]))] := hD
  refine lv_aload_n hx hb dX3_measure_13 rfl (lv_at hl 1 rfl) ?_
  refine lv_iload_n hx hb dX3_measure_14 rfl (lv_at hl 0 rfl) ?_
  refine lv_iconst (v := 1) hx hb dX3_measure_15 (by decide) ?_
  refine g_i (wr := []) (rV (rest := []) hx hb hml hown hE hP hD 1 rfl rfl (c181_X3_figure l g q1 q5 (.ref q4) (upd (upd (upd (upd (upd (upd (upd (upd f6 1 0) 4 1) 9 1) 14 1) 19 1) 24 1) 29 1) 34 1) (((pk_un (by decide)).trans ((pk_un (by decide)).trans ((pk_un (by decide)).trans ((pk_un (by decide)).trans ((pk_un (by decide)).trans ((pk_un (by decide)).trans ((pk_un (by decide)).trans ((pk_un (by decide)).trans hf31))))))))) H.size) (kV_X3_figure hE (e343 hE) rfl rfl ⟨(Nat.le_of_ble_eq_true rfl), (Nat.le_of_ble_eq_true rfl)⟩) [0, 1] rfl (by decide) rfl hl.1 rfl (lv_room (Nat.le_of_ble_eq_true rfl)) dX3_measure_16 ⟨(Nat.le_of_ble_eq_true rfl), (Nat.le_of_ble_eq_true rfl)⟩) hP hD hS hA [0, 1] [] rfl rfl (by decide) (by decide) (fun u14 H locs hP hD hS => ?_)
  have hP : va_P g.1 vwCl [(q5, .inl (g.2 0, 40, .inl (upd (upd (upd (upd (upd (upd (upd (upd f6 1 0) 4 1) 9 1) 14 1) 19 1) 24 1) 29 1) 34 1))), (q1, .inr (5, [.ref q4, .ref q5]))] H := hP
  have hD : va_D A [(q5, .inl (g.2 0, 40, .inl (upd (upd (upd (upd (upd (upd (upd (upd f6 1 0) 4 1) 9 1) 14 1) 19 1) 24 1) 29 1) 34 1))), (q1, .inr (5, [.ref q4, .ref q5]))] := hD
  refine lv_sipush (v := 20000) hx hb dX3_measure_19 (by decide) ?_
  refine lv_icmp_le (tgt := 27) hx hb dX3_measure_22 (by decide) (fun _ => ?_) (fun h => absurd (by decide) h)
  refine lv_iinc (v := 7) (lv' := [(1, .int 7), (0, .ref q1)]) hx hb dX3_measure_27 hl (k := 0) rfl (by decide) (by decide) rfl (fun ls hl => ?_)
  refine lv_goto (tgt := 2) hx hb dX3_measure_30 (by decide) ?_
  refine lv_iload_n hx hb dX3_measure_2 rfl (lv_at hl 0 rfl) ?_
  refine lv_bipush (v := 8) hx hb dX3_measure_3 (by decide) ?_
  refine lv_icmp_ge (tgt := 33) hx hb dX3_measure_5 (by decide) (fun h => absurd h (by decide)) (fun _ => ?_)
  refine lv_aload_n hx hb dX3_measure_8 rfl (lv_at hl 1 rfl) ?_
  refine lv_iload_n hx hb dX3_measure_9 rfl (lv_at hl 0 rfl) ?_
  refine g_v (wr := []) (rV (rest := []) hx hb hml hown hE hP hD 1 rfl rfl (c186_X3_measureOne l g q1 q5 (.ref q4) (upd (upd (upd (upd (upd (upd (upd (upd f6 1 0) 4 1) 9 1) 14 1) 19 1) 24 1) 29 1) 34 1) (((pk_un (by decide)).trans ((pk_un (by decide)).trans ((pk_un (by decide)).trans ((pk_un (by decide)).trans ((pk_un (by decide)).trans ((pk_un (by decide)).trans ((pk_un (by decide)).trans ((pk_un (by decide)).trans hf34))))))))) (((pk_un (by decide)).trans ((pk_un (by decide)).trans ((pk_un (by decide)).trans ((pk_un (by decide)).trans ((pk_un (by decide)).trans ((pk_un (by decide)).trans ((pk_un (by decide)).trans ((pk_un (by decide)).trans hf35))))))))) (((pk_un (by decide)).trans ((pk_un (by decide)).trans ((pk_un (by decide)).trans ((pk_un (by decide)).trans ((pk_un (by decide)).trans ((pk_un (by decide)).trans ((pk_un (by decide)).trans ((pk_un (by decide)).trans hf36))))))))) (((pk_un (by decide)).trans ((pk_un (by decide)).trans ((pk_un (by decide)).trans ((pk_un (by decide)).trans ((pk_un (by decide)).trans ((pk_un (by decide)).trans ((pk_un (by decide)).trans ((pk_un (by decide)).trans hf37))))))))) H.size) (kV_X3_measureOne hE (e698 hE) rfl rfl ⟨(Nat.le_of_ble_eq_true rfl), (Nat.le_of_ble_eq_true rfl)⟩) [0, 1] rfl (by decide) rfl hl.1 rfl (lv_room (Nat.le_of_ble_eq_true rfl)) dX3_measure_10 ⟨(Nat.le_of_ble_eq_true rfl), (Nat.le_of_ble_eq_true rfl)⟩) hP hD hS hA [0, 1] [] rfl rfl (by decide) (by decide) (fun u15 H locs hP hD hS => ?_)
  have hP : va_P g.1 vwCl [(q5, .inl (g.2 0, 40, .inl (upd (upd (upd (upd (upd (upd (upd (upd (upd f6 1 0) 4 1) 9 1) 14 1) 19 1) 24 1) 29 1) 34 1) 39 1))), (q1, .inr (5, [.ref q4, .ref q5]))] H := hP
  have hD : va_D A [(q5, .inl (g.2 0, 40, .inl (upd (upd (upd (upd (upd (upd (upd (upd (upd f6 1 0) 4 1) 9 1) 14 1) 19 1) 24 1) 29 1) 34 1) 39 1))), (q1, .inr (5, [.ref q4, .ref q5]))] := hD
  refine lv_aload_n hx hb dX3_measure_13 rfl (lv_at hl 1 rfl) ?_
  refine lv_iload_n hx hb dX3_measure_14 rfl (lv_at hl 0 rfl) ?_
  refine lv_iconst (v := 1) hx hb dX3_measure_15 (by decide) ?_
  refine g_i (wr := []) (rV (rest := []) hx hb hml hown hE hP hD 1 rfl rfl (c187_X3_figure l g q1 q5 (.ref q4) (upd (upd (upd (upd (upd (upd (upd (upd (upd f6 1 0) 4 1) 9 1) 14 1) 19 1) 24 1) 29 1) 34 1) 39 1) (((pk_un (by decide)).trans ((pk_un (by decide)).trans ((pk_un (by decide)).trans ((pk_un (by decide)).trans ((pk_un (by decide)).trans ((pk_un (by decide)).trans ((pk_un (by decide)).trans ((pk_un (by decide)).trans ((pk_un (by decide)).trans hf35)))))))))) H.size) (kV_X3_figure hE (e343 hE) rfl rfl ⟨(Nat.le_of_ble_eq_true rfl), (Nat.le_of_ble_eq_true rfl)⟩) [0, 1] rfl (by decide) rfl hl.1 rfl (lv_room (Nat.le_of_ble_eq_true rfl)) dX3_measure_16 ⟨(Nat.le_of_ble_eq_true rfl), (Nat.le_of_ble_eq_true rfl)⟩) hP hD hS hA [0, 1] [] rfl rfl (by decide) (by decide) (fun u16 H locs hP hD hS => ?_)
  have hP : va_P g.1 vwCl [(q5, .inl (g.2 0, 40, .inl (upd (upd (upd (upd (upd (upd (upd (upd (upd f6 1 0) 4 1) 9 1) 14 1) 19 1) 24 1) 29 1) 34 1) 39 1))), (q1, .inr (5, [.ref q4, .ref q5]))] H := hP
  have hD : va_D A [(q5, .inl (g.2 0, 40, .inl (upd (upd (upd (upd (upd (upd (upd (upd (upd f6 1 0) 4 1) 9 1) 14 1) 19 1) 24 1) 29 1) 34 1) 39 1))), (q1, .inr (5, [.ref q4, .ref q5]))] := hD
  refine lv_sipush (v := 20000) hx hb dX3_measure_19 (by decide) ?_
  refine lv_icmp_le (tgt := 27) hx hb dX3_measure_22 (by decide) (fun _ => ?_) (fun h => absurd (by decide) h)
  refine lv_iinc (v := 8) (lv' := [(1, .int 8), (0, .ref q1)]) hx hb dX3_measure_27 hl (k := 0) rfl (by decide) (by decide) rfl (fun ls hl => ?_)
  refine lv_goto (tgt := 2) hx hb dX3_measure_30 (by decide) ?_
  refine lv_iload_n hx hb dX3_measure_2 rfl (lv_at hl 0 rfl) ?_
  refine lv_bipush (v := 8) hx hb dX3_measure_3 (by decide) ?_
  refine lv_icmp_ge (tgt := 33) hx hb dX3_measure_5 (by decide) (fun _ => ?_) (fun h => absurd (by decide) h)
  refine lv_iconst (v := 1) hx hb dX3_measure_33 (by decide) ?_
  exact x_zret hx hb hr rfl rfl hlocks hP hD hS hAe hsz (Nat.le_of_ble_eq_true rfl) (Nat.le_of_ble_eq_true rfl) (fun _ => 0) [0, 1] (by decide) rfl dX3_measure_34

set_option maxHeartbeats 4000000 in
set_option maxRecDepth 100000 in
theorem c1503_X6_clipNumber (l : Launch) (g : gG) (q1 q9 : Nat) (x12 : Int32) (w2 w3 w5 w6 w7 w8 : Value) (f10 : Nat → Int32) (hf11 : f10 2 = x12) (sz : Nat) : Met l yX6_clipNumber [Cond.code yX6_clipNumber cX6_clipNumber 4 (some .int)] ({ frames := 0, cells := 0, slots := 0, locals := 0 } : Room) (va_Pc [.ref q1, .int 0, .int 2] (PX g sz [(q9, .inl (g.2 0, 60, .inl f10)), (q1, .inr (8, [w2, w3, .ref q9, w5, w6, w7, w8]))])) (QI g [(q9, .inl (g.2 0, 60, .inl f10)), (q1, .inr (8, [w2, w3, .ref q9, w5, w6, w7, w8]))] sz x12 (fun _ => [(q9, .inl (g.2 0, 60, .inl f10)), (q1, .inr (8, [w2, w3, .ref q9, w5, w6, w7, w8]))])) 0 0 (va_A [(q9, .inl (g.2 0, 60, .inl f10)), (q1, .inr (8, [w2, w3, .ref q9, w5, w6, w7, w8]))] sz) := by
  refine ofN (by decide) (Nat.le_of_ble_eq_true rfl) rfl ?_
  intro p e s m args below meth c A ls hAe hsz hx hb hml hr hlocks hin hown hE hP hD hA hS hl
  have hown : s.vm.findClass RX6 = some m.cls := hown
  refine lv_iload_n hx hb dX6_clipNumber_0 rfl (lv_at hl 1 rfl) ?_
  refine lv_iconst (v := 5) hx hb dX6_clipNumber_1 (by decide) ?_
  refine x_imul (v := 0) hx hb dX6_clipNumber_2 (by decide) ?_
  refine lv_iload_n hx hb dX6_clipNumber_3 rfl (lv_at hl 2 rfl) ?_
  refine x_iadd (v := 2) hx hb dX6_clipNumber_4 (by decide) ?_
  refine lv_istore_n (lv' := [(3, .int 2), (0, .ref q1), (1, .int 0), (2, .int 2)]) hx hb dX6_clipNumber_5 rfl hl (by decide) rfl (fun ls hl => ?_)
  refine lv_iload_n hx hb dX6_clipNumber_6 rfl (lv_at hl 0 rfl) ?_
  refine lv_if_lt (tgt := 28) hx hb dX6_clipNumber_7 (by decide) (fun h => absurd h (by decide)) (fun _ => ?_)
  refine lv_iload_n hx hb dX6_clipNumber_10 rfl (lv_at hl 0 rfl) ?_
  refine lv_aload_n hx hb dX6_clipNumber_11 rfl (lv_at hl 1 rfl) ?_
  refine gf_RX6_25 hx hb hown hE hP 1 rfl rfl dX6_clipNumber_12 ?_
  refine x_aleni (v := 60) hx hb hE hP 0 rfl rfl dX6_clipNumber_15 ?_
  refine lv_icmp_ge (tgt := 28) hx hb dX6_clipNumber_16 (by decide) (fun h => absurd h (by decide)) (fun _ => ?_)
  refine lv_aload_n hx hb dX6_clipNumber_19 rfl (lv_at hl 1 rfl) ?_
  refine gf_RX6_25 hx hb hown hE hP 1 rfl rfl dX6_clipNumber_20 ?_
  refine lv_iload_n hx hb dX6_clipNumber_23 rfl (lv_at hl 0 rfl) ?_
  refine x_iald (v := x12) hx hb hE hP 0 rfl 2 (x_in (by decide)) (by decide) hf11 dX6_clipNumber_24 ?_
  refine lv_goto (tgt := 29) hx hb dX6_clipNumber_25 (by decide) ?_
  exact x_zret hx hb hr rfl rfl hlocks hP hD hS hAe hsz (Nat.le_of_ble_eq_true rfl) (Nat.le_of_ble_eq_true rfl) (fun _ => 0) [0, 1] (by decide) rfl dX6_clipNumber_29

set_option maxHeartbeats 4000000 in
set_option maxRecDepth 100000 in
theorem c1504_X6_clipNumber (l : Launch) (g : gG) (q1 q9 : Nat) (x12 : Int32) (w2 w3 w5 w6 w7 w8 : Value) (f10 : Nat → Int32) (hf11 : f10 1 = x12) (sz : Nat) : Met l yX6_clipNumber [Cond.code yX6_clipNumber cX6_clipNumber 4 (some .int)] ({ frames := 0, cells := 0, slots := 0, locals := 0 } : Room) (va_Pc [.ref q1, .int 0, .int 1] (PX g sz [(q9, .inl (g.2 0, 60, .inl f10)), (q1, .inr (8, [w2, w3, .ref q9, w5, w6, w7, w8]))])) (QI g [(q9, .inl (g.2 0, 60, .inl f10)), (q1, .inr (8, [w2, w3, .ref q9, w5, w6, w7, w8]))] sz x12 (fun _ => [(q9, .inl (g.2 0, 60, .inl f10)), (q1, .inr (8, [w2, w3, .ref q9, w5, w6, w7, w8]))])) 0 0 (va_A [(q9, .inl (g.2 0, 60, .inl f10)), (q1, .inr (8, [w2, w3, .ref q9, w5, w6, w7, w8]))] sz) := by
  refine ofN (by decide) (Nat.le_of_ble_eq_true rfl) rfl ?_
  intro p e s m args below meth c A ls hAe hsz hx hb hml hr hlocks hin hown hE hP hD hA hS hl
  have hown : s.vm.findClass RX6 = some m.cls := hown
  refine lv_iload_n hx hb dX6_clipNumber_0 rfl (lv_at hl 1 rfl) ?_
  refine lv_iconst (v := 5) hx hb dX6_clipNumber_1 (by decide) ?_
  refine x_imul (v := 0) hx hb dX6_clipNumber_2 (by decide) ?_
  refine lv_iload_n hx hb dX6_clipNumber_3 rfl (lv_at hl 2 rfl) ?_
  refine x_iadd (v := 1) hx hb dX6_clipNumber_4 (by decide) ?_
  refine lv_istore_n (lv' := [(3, .int 1), (0, .ref q1), (1, .int 0), (2, .int 1)]) hx hb dX6_clipNumber_5 rfl hl (by decide) rfl (fun ls hl => ?_)
  refine lv_iload_n hx hb dX6_clipNumber_6 rfl (lv_at hl 0 rfl) ?_
  refine lv_if_lt (tgt := 28) hx hb dX6_clipNumber_7 (by decide) (fun h => absurd h (by decide)) (fun _ => ?_)
  refine lv_iload_n hx hb dX6_clipNumber_10 rfl (lv_at hl 0 rfl) ?_
  refine lv_aload_n hx hb dX6_clipNumber_11 rfl (lv_at hl 1 rfl) ?_
  refine gf_RX6_25 hx hb hown hE hP 1 rfl rfl dX6_clipNumber_12 ?_
  refine x_aleni (v := 60) hx hb hE hP 0 rfl rfl dX6_clipNumber_15 ?_
  refine lv_icmp_ge (tgt := 28) hx hb dX6_clipNumber_16 (by decide) (fun h => absurd h (by decide)) (fun _ => ?_)
  refine lv_aload_n hx hb dX6_clipNumber_19 rfl (lv_at hl 1 rfl) ?_
  refine gf_RX6_25 hx hb hown hE hP 1 rfl rfl dX6_clipNumber_20 ?_
  refine lv_iload_n hx hb dX6_clipNumber_23 rfl (lv_at hl 0 rfl) ?_
  refine x_iald (v := x12) hx hb hE hP 0 rfl 1 (x_in (by decide)) (by decide) hf11 dX6_clipNumber_24 ?_
  refine lv_goto (tgt := 29) hx hb dX6_clipNumber_25 (by decide) ?_
  exact x_zret hx hb hr rfl rfl hlocks hP hD hS hAe hsz (Nat.le_of_ble_eq_true rfl) (Nat.le_of_ble_eq_true rfl) (fun _ => 0) [0, 1] (by decide) rfl dX6_clipNumber_29

set_option maxHeartbeats 4000000 in
set_option maxRecDepth 100000 in
theorem c1505_X6_clipLength (l : Launch) (g : gG) (q1 q9 q13 q17 : Nat) (x12 : Int32) (w3 w5 w6 w7 w8 w15 : Value) (f10 : Nat → Int32) (f18 : Nat → Int32) (hf11 : f10 2 = x12) (hf14 : f10 1 = 0) (hf19 : f18 1 = 0) (sz : Nat) : Met l yX6_clipLength [Cond.code yX6_clipLength cX6_clipLength 2 (some .int)] ({ frames := 1, cells := 0, slots := 0, locals := 23 } : Room) (va_Pc [.ref q1, .int 0] (PX g sz [(q17, .inl (g.2 0, 40, .inl f18)), (q13, .inr (5, [w15, .ref q17])), (q9, .inl (g.2 0, 60, .inl f10)), (q1, .inr (8, [.ref q13, w3, .ref q9, w5, w6, w7, w8]))])) (QI g [(q17, .inl (g.2 0, 40, .inl f18)), (q13, .inr (5, [w15, .ref q17])), (q9, .inl (g.2 0, 60, .inl f10)), (q1, .inr (8, [.ref q13, w3, .ref q9, w5, w6, w7, w8]))] sz 0 (fun _ => [(q9, .inl (g.2 0, 60, .inl f10)), (q1, .inr (8, [.ref q13, w3, .ref q9, w5, w6, w7, w8])), (q17, .inl (g.2 0, 40, .inl f18)), (q13, .inr (5, [w15, .ref q17]))])) 0 0 (va_A [(q17, .inl (g.2 0, 40, .inl f18)), (q13, .inr (5, [w15, .ref q17])), (q9, .inl (g.2 0, 60, .inl f10)), (q1, .inr (8, [.ref q13, w3, .ref q9, w5, w6, w7, w8]))] sz) := by
  refine ofN (by decide) (Nat.le_of_ble_eq_true rfl) rfl ?_
  intro p e s m args below meth c A ls hAe hsz hx hb hml hr hlocks hin hown hE hP hD hA hS hl
  have hown : s.vm.findClass RX6 = some m.cls := hown
  refine lv_aload_n hx hb dX6_clipLength_0 rfl (lv_at hl 0 rfl) ?_
  refine lv_iload_n hx hb dX6_clipLength_1 rfl (lv_at hl 1 rfl) ?_
  refine lv_iconst (v := 2) hx hb dX6_clipLength_2 (by decide) ?_
  refine g_i (wr := [(q17, .inl (g.2 0, 40, .inl f18)), (q13, .inr (5, [w15, .ref q17]))]) (rV (rest := []) hx hb hml hown hE hP hD 3 rfl rfl (c1503_X6_clipNumber l g q1 q9 x12 (.ref q13) w3 w5 w6 w7 w8 f10 (hf11) s.heap.size) (kV_X6_clipNumber hE (e711 hE) rfl rfl ⟨(Nat.le_of_ble_eq_true rfl), (Nat.le_of_ble_eq_true rfl)⟩) [2, 3] rfl (by decide) rfl hl.1 rfl (lv_room (Nat.le_of_ble_eq_true rfl)) dX6_clipLength_3 ⟨(Nat.le_of_ble_eq_true rfl), (Nat.le_of_ble_eq_true rfl)⟩) hP hD hS hA [2, 3] [0, 1] rfl rfl (by decide) (by decide) (fun u1 H locs hP hD hS => ?_)
  have hP : va_P g.1 vwCl [(q17, .inl (g.2 0, 40, .inl f18)), (q13, .inr (5, [w15, .ref q17])), (q9, .inl (g.2 0, 60, .inl f10)), (q1, .inr (8, [.ref q13, w3, .ref q9, w5, w6, w7, w8]))] H := hP
  have hD : va_D A [(q17, .inl (g.2 0, 40, .inl f18)), (q13, .inr (5, [w15, .ref q17])), (q9, .inl (g.2 0, 60, .inl f10)), (q1, .inr (8, [.ref q13, w3, .ref q9, w5, w6, w7, w8]))] := hD
  refine lv_aload_n hx hb dX6_clipLength_6 rfl (lv_at hl 0 rfl) ?_
  refine gf_RX6_12 hx hb hown hE hP 3 rfl rfl dX6_clipLength_7 ?_
  refine lv_aload_n hx hb dX6_clipLength_10 rfl (lv_at hl 0 rfl) ?_
  refine lv_iload_n hx hb dX6_clipLength_11 rfl (lv_at hl 1 rfl) ?_
  refine lv_iconst (v := 1) hx hb dX6_clipLength_12 (by decide) ?_
  refine g_i (wr := [(q17, .inl (g.2 0, 40, .inl f18)), (q13, .inr (5, [w15, .ref q17]))]) (rV (rest := [.ref q13, .int x12]) hx hb hml hown hE hP hD 3 rfl rfl (c1504_X6_clipNumber l g q1 q9 0 (.ref q13) w3 w5 w6 w7 w8 f10 (hf14) H.size) (kV_X6_clipNumber hE (e711 hE) rfl rfl ⟨(Nat.le_of_ble_eq_true rfl), (Nat.le_of_ble_eq_true rfl)⟩) [2, 3] rfl (by decide) rfl hl.1 rfl (lv_room (Nat.le_of_ble_eq_true rfl)) dX6_clipLength_13 ⟨(Nat.le_of_ble_eq_true rfl), (Nat.le_of_ble_eq_true rfl)⟩) hP hD hS hA [2, 3] [0, 1] rfl rfl (by decide) (by decide) (fun u2 H locs hP hD hS => ?_)
  have hP : va_P g.1 vwCl [(q17, .inl (g.2 0, 40, .inl f18)), (q13, .inr (5, [w15, .ref q17])), (q9, .inl (g.2 0, 60, .inl f10)), (q1, .inr (8, [.ref q13, w3, .ref q9, w5, w6, w7, w8]))] H := hP
  have hD : va_D A [(q17, .inl (g.2 0, 40, .inl f18)), (q13, .inr (5, [w15, .ref q17])), (q9, .inl (g.2 0, 60, .inl f10)), (q1, .inr (8, [.ref q13, w3, .ref q9, w5, w6, w7, w8]))] := hD
  refine lv_iconst (v := 1) hx hb dX6_clipLength_16 (by decide) ?_
  refine g_i (wr := [(q9, .inl (g.2 0, 60, .inl f10)), (q1, .inr (8, [.ref q13, w3, .ref q9, w5, w6, w7, w8]))]) (rV (rest := [.int x12]) hx hb hml hown hE hP hD 1 rfl rfl (c145_X3_figure l g q13 q17 0 w15 f18 (hf19) H.size) (kV_X3_figure hE (e712 hE) rfl rfl ⟨(Nat.le_of_ble_eq_true rfl), (Nat.le_of_ble_eq_true rfl)⟩) [0, 1] rfl (by decide) rfl hl.1 rfl (lv_room (Nat.le_of_ble_eq_true rfl)) dX6_clipLength_17 ⟨(Nat.le_of_ble_eq_true rfl), (Nat.le_of_ble_eq_true rfl)⟩) hP hD hS hA [0, 1] [2, 3] rfl rfl (by decide) (by decide) (fun u3 H locs hP hD hS => ?_)
  have hP : va_P g.1 vwCl [(q9, .inl (g.2 0, 60, .inl f10)), (q1, .inr (8, [.ref q13, w3, .ref q9, w5, w6, w7, w8])), (q17, .inl (g.2 0, 40, .inl f18)), (q13, .inr (5, [w15, .ref q17]))] H := hP
  have hD : va_D A [(q9, .inl (g.2 0, 60, .inl f10)), (q1, .inr (8, [.ref q13, w3, .ref q9, w5, w6, w7, w8])), (q17, .inl (g.2 0, 40, .inl f18)), (q13, .inr (5, [w15, .ref q17]))] := hD
  refine x_imul (v := 0) hx hb dX6_clipLength_20 (Int32.mul_zero) ?_
  exact x_zret hx hb hr rfl rfl hlocks hP hD hS hAe hsz (Nat.le_of_ble_eq_true rfl) (Nat.le_of_ble_eq_true rfl) (fun _ => 0) [0, 1, 2, 3] (by decide) rfl dX6_clipLength_21

set_option maxHeartbeats 4000000 in
set_option maxRecDepth 100000 in
theorem c1506_X6_clipNotes (l : Launch) (g : gG) (q1 q9 q13 q17 : Nat) (x12 : Int32) (w3 w5 w6 w7 w8 w15 : Value) (f10 : Nat → Int32) (f18 : Nat → Int32) (hf11 : f10 2 = x12) (hf14 : f10 1 = 0) (hf19 : f18 2 = 0) (sz : Nat) : Met l yX6_clipNotes [Cond.code yX6_clipNotes cX6_clipNotes 2 (some .int)] ({ frames := 1, cells := 0, slots := 0, locals := 23 } : Room) (va_Pc [.ref q1, .int 0] (PX g sz [(q17, .inl (g.2 0, 40, .inl f18)), (q13, .inr (5, [w15, .ref q17])), (q9, .inl (g.2 0, 60, .inl f10)), (q1, .inr (8, [.ref q13, w3, .ref q9, w5, w6, w7, w8]))])) (QI g [(q17, .inl (g.2 0, 40, .inl f18)), (q13, .inr (5, [w15, .ref q17])), (q9, .inl (g.2 0, 60, .inl f10)), (q1, .inr (8, [.ref q13, w3, .ref q9, w5, w6, w7, w8]))] sz 0 (fun _ => [(q9, .inl (g.2 0, 60, .inl f10)), (q1, .inr (8, [.ref q13, w3, .ref q9, w5, w6, w7, w8])), (q17, .inl (g.2 0, 40, .inl f18)), (q13, .inr (5, [w15, .ref q17]))])) 0 0 (va_A [(q17, .inl (g.2 0, 40, .inl f18)), (q13, .inr (5, [w15, .ref q17])), (q9, .inl (g.2 0, 60, .inl f10)), (q1, .inr (8, [.ref q13, w3, .ref q9, w5, w6, w7, w8]))] sz) := by
  refine ofN (by decide) (Nat.le_of_ble_eq_true rfl) rfl ?_
  intro p e s m args below meth c A ls hAe hsz hx hb hml hr hlocks hin hown hE hP hD hA hS hl
  have hown : s.vm.findClass RX6 = some m.cls := hown
  refine lv_aload_n hx hb dX6_clipNotes_0 rfl (lv_at hl 0 rfl) ?_
  refine lv_iload_n hx hb dX6_clipNotes_1 rfl (lv_at hl 1 rfl) ?_
  refine lv_iconst (v := 2) hx hb dX6_clipNotes_2 (by decide) ?_
  refine g_i (wr := [(q17, .inl (g.2 0, 40, .inl f18)), (q13, .inr (5, [w15, .ref q17]))]) (rV (rest := []) hx hb hml hown hE hP hD 3 rfl rfl (c1503_X6_clipNumber l g q1 q9 x12 (.ref q13) w3 w5 w6 w7 w8 f10 (hf11) s.heap.size) (kV_X6_clipNumber hE (e711 hE) rfl rfl ⟨(Nat.le_of_ble_eq_true rfl), (Nat.le_of_ble_eq_true rfl)⟩) [2, 3] rfl (by decide) rfl hl.1 rfl (lv_room (Nat.le_of_ble_eq_true rfl)) dX6_clipNotes_3 ⟨(Nat.le_of_ble_eq_true rfl), (Nat.le_of_ble_eq_true rfl)⟩) hP hD hS hA [2, 3] [0, 1] rfl rfl (by decide) (by decide) (fun u1 H locs hP hD hS => ?_)
  have hP : va_P g.1 vwCl [(q17, .inl (g.2 0, 40, .inl f18)), (q13, .inr (5, [w15, .ref q17])), (q9, .inl (g.2 0, 60, .inl f10)), (q1, .inr (8, [.ref q13, w3, .ref q9, w5, w6, w7, w8]))] H := hP
  have hD : va_D A [(q17, .inl (g.2 0, 40, .inl f18)), (q13, .inr (5, [w15, .ref q17])), (q9, .inl (g.2 0, 60, .inl f10)), (q1, .inr (8, [.ref q13, w3, .ref q9, w5, w6, w7, w8]))] := hD
  refine lv_aload_n hx hb dX6_clipNotes_6 rfl (lv_at hl 0 rfl) ?_
  refine gf_RX6_12 hx hb hown hE hP 3 rfl rfl dX6_clipNotes_7 ?_
  refine lv_aload_n hx hb dX6_clipNotes_10 rfl (lv_at hl 0 rfl) ?_
  refine lv_iload_n hx hb dX6_clipNotes_11 rfl (lv_at hl 1 rfl) ?_
  refine lv_iconst (v := 1) hx hb dX6_clipNotes_12 (by decide) ?_
  refine g_i (wr := [(q17, .inl (g.2 0, 40, .inl f18)), (q13, .inr (5, [w15, .ref q17]))]) (rV (rest := [.ref q13, .int x12]) hx hb hml hown hE hP hD 3 rfl rfl (c1504_X6_clipNumber l g q1 q9 0 (.ref q13) w3 w5 w6 w7 w8 f10 (hf14) H.size) (kV_X6_clipNumber hE (e711 hE) rfl rfl ⟨(Nat.le_of_ble_eq_true rfl), (Nat.le_of_ble_eq_true rfl)⟩) [2, 3] rfl (by decide) rfl hl.1 rfl (lv_room (Nat.le_of_ble_eq_true rfl)) dX6_clipNotes_13 ⟨(Nat.le_of_ble_eq_true rfl), (Nat.le_of_ble_eq_true rfl)⟩) hP hD hS hA [2, 3] [0, 1] rfl rfl (by decide) (by decide) (fun u2 H locs hP hD hS => ?_)
  have hP : va_P g.1 vwCl [(q17, .inl (g.2 0, 40, .inl f18)), (q13, .inr (5, [w15, .ref q17])), (q9, .inl (g.2 0, 60, .inl f10)), (q1, .inr (8, [.ref q13, w3, .ref q9, w5, w6, w7, w8]))] H := hP
  have hD : va_D A [(q17, .inl (g.2 0, 40, .inl f18)), (q13, .inr (5, [w15, .ref q17])), (q9, .inl (g.2 0, 60, .inl f10)), (q1, .inr (8, [.ref q13, w3, .ref q9, w5, w6, w7, w8]))] := hD
  refine lv_iconst (v := 2) hx hb dX6_clipNotes_16 (by decide) ?_
  refine g_i (wr := [(q9, .inl (g.2 0, 60, .inl f10)), (q1, .inr (8, [.ref q13, w3, .ref q9, w5, w6, w7, w8]))]) (rV (rest := [.int x12]) hx hb hml hown hE hP hD 1 rfl rfl (c666_X3_figure l g q13 q17 w15 f18 (hf19) H.size) (kV_X3_figure hE (e712 hE) rfl rfl ⟨(Nat.le_of_ble_eq_true rfl), (Nat.le_of_ble_eq_true rfl)⟩) [0, 1] rfl (by decide) rfl hl.1 rfl (lv_room (Nat.le_of_ble_eq_true rfl)) dX6_clipNotes_17 ⟨(Nat.le_of_ble_eq_true rfl), (Nat.le_of_ble_eq_true rfl)⟩) hP hD hS hA [0, 1] [2, 3] rfl rfl (by decide) (by decide) (fun u3 H locs hP hD hS => ?_)
  have hP : va_P g.1 vwCl [(q9, .inl (g.2 0, 60, .inl f10)), (q1, .inr (8, [.ref q13, w3, .ref q9, w5, w6, w7, w8])), (q17, .inl (g.2 0, 40, .inl f18)), (q13, .inr (5, [w15, .ref q17]))] H := hP
  have hD : va_D A [(q9, .inl (g.2 0, 60, .inl f10)), (q1, .inr (8, [.ref q13, w3, .ref q9, w5, w6, w7, w8])), (q17, .inl (g.2 0, 40, .inl f18)), (q13, .inr (5, [w15, .ref q17]))] := hD
  refine x_imul (v := 0) hx hb dX6_clipNotes_20 (Int32.mul_zero) ?_
  exact x_zret hx hb hr rfl rfl hlocks hP hD hS hAe hsz (Nat.le_of_ble_eq_true rfl) (Nat.le_of_ble_eq_true rfl) (fun _ => 0) [0, 1, 2, 3] (by decide) rfl dX6_clipNotes_21

set_option maxHeartbeats 4000000 in
set_option maxRecDepth 100000 in
theorem c1507_X6_hasFittingClips (l : Launch) (g : gG) (q1 q9 q13 q17 : Nat) (x12 : Int32) (w3 w5 w7 w8 w15 : Value) (f10 : Nat → Int32) (f18 : Nat → Int32) (hf11 : f10 2 = x12) (hf14 : f10 1 = 0) (hf19 : f18 1 = 0) (hf20 : f18 2 = 0) (sz : Nat) : Met l yX6_hasFittingClips [Cond.code yX6_hasFittingClips cX6_hasFittingClips 3 (some .boolean)] ({ frames := 2, cells := 0, slots := 0, locals := 44 } : Room) (va_Pc [.ref q1] (PX g sz [(q17, .inl (g.2 0, 40, .inl f18)), (q13, .inr (5, [w15, .ref q17])), (q9, .inl (g.2 0, 60, .inl f10)), (q1, .inr (8, [.ref q13, w3, .ref q9, w5, .int 1, w7, w8]))])) (QI g [(q17, .inl (g.2 0, 40, .inl f18)), (q13, .inr (5, [w15, .ref q17])), (q9, .inl (g.2 0, 60, .inl f10)), (q1, .inr (8, [.ref q13, w3, .ref q9, w5, .int 1, w7, w8]))] sz 1 (fun _ => [(q9, .inl (g.2 0, 60, .inl f10)), (q1, .inr (8, [.ref q13, w3, .ref q9, w5, .int 1, w7, w8])), (q17, .inl (g.2 0, 40, .inl f18)), (q13, .inr (5, [w15, .ref q17]))])) 0 0 (va_A [(q17, .inl (g.2 0, 40, .inl f18)), (q13, .inr (5, [w15, .ref q17])), (q9, .inl (g.2 0, 60, .inl f10)), (q1, .inr (8, [.ref q13, w3, .ref q9, w5, .int 1, w7, w8]))] sz) := by
  refine ofN (by decide) (Nat.le_of_ble_eq_true rfl) rfl ?_
  intro p e s m args below meth c A ls hAe hsz hx hb hml hr hlocks hin hown hE hP hD hA hS hl
  have hown : s.vm.findClass RX6 = some m.cls := hown
  refine lv_iconst (v := 0) hx hb dX6_hasFittingClips_0 (by decide) ?_
  refine lv_istore_n (lv' := [(1, .int 0), (0, .ref q1)]) hx hb dX6_hasFittingClips_1 rfl hl (by decide) rfl (fun ls hl => ?_)
  refine lv_iconst (v := 0) hx hb dX6_hasFittingClips_2 (by decide) ?_
  refine lv_istore_n (lv' := [(2, .int 0), (1, .int 0), (0, .ref q1)]) hx hb dX6_hasFittingClips_3 rfl hl (by decide) rfl (fun ls hl => ?_)
  refine lv_iload_n hx hb dX6_hasFittingClips_4 rfl (lv_at hl 0 rfl) ?_
  refine lv_aload_n hx hb dX6_hasFittingClips_5 rfl (lv_at hl 2 rfl) ?_
  refine gf_RX6_37 hx hb hown hE hP 3 rfl rfl dX6_hasFittingClips_6 ?_
  refine lv_icmp_ge (tgt := 39) hx hb dX6_hasFittingClips_9 (by decide) (fun h => absurd h (by decide)) (fun _ => ?_)
  refine lv_aload_n hx hb dX6_hasFittingClips_12 rfl (lv_at hl 2 rfl) ?_
  refine lv_iload_n hx hb dX6_hasFittingClips_13 rfl (lv_at hl 0 rfl) ?_
  refine g_i (wr := []) (rV (rest := []) hx hb hml hown hE hP hD 3 rfl rfl (c1505_X6_clipLength l g q1 q9 q13 q17 x12 w3 w5 (.int 1) w7 w8 w15 f10 f18 (hf11) (hf14) (hf19) s.heap.size) (kV_X6_clipLength hE (e707 hE) rfl rfl ⟨(Nat.le_of_ble_eq_true rfl), (Nat.le_of_ble_eq_true rfl)⟩) [0, 1, 2, 3] rfl (by decide) rfl hl.1 rfl (lv_room (Nat.le_of_ble_eq_true rfl)) dX6_hasFittingClips_14 ⟨(Nat.le_of_ble_eq_true rfl), (Nat.le_of_ble_eq_true rfl)⟩) hP hD hS hA [0, 1, 2, 3] [] rfl rfl (by decide) (by decide) (fun u1 H locs hP hD hS => ?_)
  have hP : va_P g.1 vwCl [(q9, .inl (g.2 0, 60, .inl f10)), (q1, .inr (8, [.ref q13, w3, .ref q9, w5, .int 1, w7, w8])), (q17, .inl (g.2 0, 40, .inl f18)), (q13, .inr (5, [w15, .ref q17]))] H := hP
  have hD : va_D A [(q9, .inl (g.2 0, 60, .inl f10)), (q1, .inr (8, [.ref q13, w3, .ref q9, w5, .int 1, w7, w8])), (q17, .inl (g.2 0, 40, .inl f18)), (q13, .inr (5, [w15, .ref q17]))] := hD
  refine lv_sipush (v := 20000) hx hb dX6_hasFittingClips_17 (by decide) ?_
  refine lv_icmp_le (tgt := 25) hx hb dX6_hasFittingClips_20 (by decide) (fun _ => ?_) (fun h => absurd (by decide) h)
  refine lv_iload_n hx hb dX6_hasFittingClips_25 rfl (lv_at hl 1 rfl) ?_
  refine lv_aload_n hx hb dX6_hasFittingClips_26 rfl (lv_at hl 2 rfl) ?_
  refine lv_iload_n hx hb dX6_hasFittingClips_27 rfl (lv_at hl 0 rfl) ?_
  refine g_i (wr := []) (rV (rest := [.int 0]) hx hb hml hown hE hP hD 1 rfl rfl (c1506_X6_clipNotes l g q1 q9 q13 q17 x12 w3 w5 (.int 1) w7 w8 w15 f10 f18 (hf11) (hf14) (hf20) H.size) (kV_X6_clipNotes hE (e713 hE) rfl rfl ⟨(Nat.le_of_ble_eq_true rfl), (Nat.le_of_ble_eq_true rfl)⟩) [2, 3, 0, 1] rfl (by decide) rfl hl.1 rfl (lv_room (Nat.le_of_ble_eq_true rfl)) dX6_hasFittingClips_28 ⟨(Nat.le_of_ble_eq_true rfl), (Nat.le_of_ble_eq_true rfl)⟩) hP hD hS hA [2, 3, 0, 1] [] rfl rfl (by decide) (by decide) (fun u2 H locs hP hD hS => ?_)
  have hP : va_P g.1 vwCl [(q9, .inl (g.2 0, 60, .inl f10)), (q1, .inr (8, [.ref q13, w3, .ref q9, w5, .int 1, w7, w8])), (q17, .inl (g.2 0, 40, .inl f18)), (q13, .inr (5, [w15, .ref q17]))] H := hP
  have hD : va_D A [(q9, .inl (g.2 0, 60, .inl f10)), (q1, .inr (8, [.ref q13, w3, .ref q9, w5, .int 1, w7, w8])), (q17, .inl (g.2 0, 40, .inl f18)), (q13, .inr (5, [w15, .ref q17]))] := hD
  refine x_iadd (v := 0) hx hb dX6_hasFittingClips_31 (by decide) ?_
  refine lv_istore_n (lv' := [(1, .int 0), (2, .int 0), (0, .ref q1)]) hx hb dX6_hasFittingClips_32 rfl hl (by decide) rfl (fun ls hl => ?_)
  refine lv_iinc (v := 1) (lv' := [(2, .int 1), (1, .int 0), (0, .ref q1)]) hx hb dX6_hasFittingClips_33 hl (k := 1) rfl (by decide) (by decide) rfl (fun ls hl => ?_)
  refine lv_goto (tgt := 4) hx hb dX6_hasFittingClips_36 (by decide) ?_
  refine lv_iload_n hx hb dX6_hasFittingClips_4 rfl (lv_at hl 0 rfl) ?_
  refine lv_aload_n hx hb dX6_hasFittingClips_5 rfl (lv_at hl 2 rfl) ?_
  refine gf_RX6_37 hx hb hown hE hP 1 rfl rfl dX6_hasFittingClips_6 ?_
  refine lv_icmp_ge (tgt := 39) hx hb dX6_hasFittingClips_9 (by decide) (fun _ => ?_) (fun h => absurd (by decide) h)
  refine lv_iload_n hx hb dX6_hasFittingClips_39 rfl (lv_at hl 1 rfl) ?_
  refine lv_sipush (v := 300) hx hb dX6_hasFittingClips_40 (by decide) ?_
  refine lv_icmp_gt (tgt := 50) hx hb dX6_hasFittingClips_43 (by decide) (fun h => absurd h (by decide)) (fun _ => ?_)
  refine lv_iconst (v := 1) hx hb dX6_hasFittingClips_46 (by decide) ?_
  refine lv_goto (tgt := 51) hx hb dX6_hasFittingClips_47 (by decide) ?_
  exact x_zret hx hb hr rfl rfl hlocks hP hD hS hAe hsz (Nat.le_of_ble_eq_true rfl) (Nat.le_of_ble_eq_true rfl) (fun _ => 0) [0, 1, 2, 3] (by decide) rfl dX6_hasFittingClips_51

set_option maxHeartbeats 4000000 in
set_option maxRecDepth 100000 in
theorem c1508_X9_acceptIfFitting (l : Launch) (g : gG) (q1 q2 q10 q13 q14 q47 q63 : Nat) (x50 : Int32) (w4 w6 w8 w9 w53 w54 w55 w56 w57 w58 w59 w60 w61 w62 w64 : Value) (f15 : Nat → Int32) (f48 : Nat → Int32) (hf16 : f15 0 = 0) (hf17 : f15 2 = 0) (hf18 : f15 3 = 0) (hf19 : f15 5 = 0) (hf20 : f15 6 = 0) (hf21 : f15 7 = 0) (hf22 : f15 8 = 0) (hf23 : f15 10 = 0) (hf24 : f15 11 = 0) (hf25 : f15 12 = 0) (hf26 : f15 13 = 0) (hf27 : f15 15 = 0) (hf28 : f15 16 = 0) (hf29 : f15 17 = 0) (hf30 : f15 18 = 0) (hf31 : f15 20 = 0) (hf32 : f15 21 = 0) (hf33 : f15 22 = 0) (hf34 : f15 23 = 0) (hf35 : f15 25 = 0) (hf36 : f15 26 = 0) (hf37 : f15 27 = 0) (hf38 : f15 28 = 0) (hf39 : f15 30 = 0) (hf40 : f15 31 = 0) (hf41 : f15 32 = 0) (hf42 : f15 33 = 0) (hf43 : f15 35 = 0) (hf44 : f15 36 = 0) (hf45 : f15 37 = 0) (hf46 : f15 38 = 0) (hf49 : f48 2 = x50) (hf51 : f48 1 = 0) (sz : Nat) : Met l yX9_acceptIfFitting [Cond.code yX9_acceptIfFitting cX9_acceptIfFitting 2 none] ({ frames := 3, cells := 0, slots := 0, locals := 73 } : Room) (va_Pc [.ref q1, .ref q2] (PX g sz [(q63, .inr (10, [w64, .int 0, .int 0])), (q1, .inr (11, [.ref q63, w53, w54, w55, w56, w57, w58, w59, w60, w61, w62])), (q47, .inl (g.2 0, 60, .inl f48)), (q14, .inl (g.2 0, 40, .inl f15)), (q10, .inr (5, [.ref q13, .ref q14])), (q2, .inr (8, [.ref q10, w4, .ref q47, w6, .int 1, w8, w9]))])) (QV g [(q63, .inr (10, [w64, .int 0, .int 0])), (q1, .inr (11, [.ref q63, w53, w54, w55, w56, w57, w58, w59, w60, w61, w62])), (q47, .inl (g.2 0, 60, .inl f48)), (q14, .inl (g.2 0, 40, .inl f15)), (q10, .inr (5, [.ref q13, .ref q14])), (q2, .inr (8, [.ref q10, w4, .ref q47, w6, .int 1, w8, w9]))] sz (fun _ => [(q47, .inl (g.2 0, 60, .inl f48)), (q2, .inr (8, [.ref q10, w4, .ref q47, w6, .int 1, w8, w9])), (q14, .inl (g.2 0, 40, .inl (upd (upd (upd (upd (upd (upd (upd (upd (upd f15 1 0) 4 1) 9 1) 14 1) 19 1) 24 1) 29 1) 34 1) 39 1))), (q10, .inr (5, [.ref q13, .ref q14])), (q63, .inr (10, [w64, .int 1, .int 1])), (q1, .inr (11, [.ref q63, w53, w54, w55, w56, w57, w58, w59, .int 0, .int 0, w62]))])) 0 0 (va_A [(q63, .inr (10, [w64, .int 0, .int 0])), (q1, .inr (11, [.ref q63, w53, w54, w55, w56, w57, w58, w59, w60, w61, w62])), (q47, .inl (g.2 0, 60, .inl f48)), (q14, .inl (g.2 0, 40, .inl f15)), (q10, .inr (5, [.ref q13, .ref q14])), (q2, .inr (8, [.ref q10, w4, .ref q47, w6, .int 1, w8, w9]))] sz) := by
  refine ofN (by decide) (Nat.le_of_ble_eq_true rfl) rfl ?_
  intro p e s m args below meth c A ls hAe hsz hx hb hml hr hlocks hin hown hE hP hD hA hS hl
  have hown : s.vm.findClass RX9 = some m.cls := hown
  refine lv_aload_n hx hb dX9_acceptIfFitting_0 rfl (lv_at hl 1 rfl) ?_
  refine gf_RX9_108 hx hb hown hE hP 5 rfl rfl dX9_acceptIfFitting_1 ?_
  refine g_i (wr := [(q63, .inr (10, [w64, .int 0, .int 0])), (q1, .inr (11, [.ref q63, w53, w54, w55, w56, w57, w58, w59, w60, w61, w62])), (q47, .inl (g.2 0, 60, .inl f48)), (q2, .inr (8, [.ref q10, w4, .ref q47, w6, .int 1, w8, w9]))]) (rV (rest := []) hx hb hml hown hE hP hD 4 rfl rfl (c1502_X3_measure l g q10 q13 q14 f15 (hf16) (hf17) (hf18) (hf19) (hf20) (hf21) (hf22) (hf23) (hf24) (hf25) (hf26) (hf27) (hf28) (hf29) (hf30) (hf31) (hf32) (hf33) (hf34) (hf35) (hf36) (hf37) (hf38) (hf39) (hf40) (hf41) (hf42) (hf43) (hf44) (hf45) (hf46) s.heap.size) (kV_X3_measure hE (e694 hE) rfl rfl ⟨(Nat.le_of_ble_eq_true rfl), (Nat.le_of_ble_eq_true rfl)⟩) [3, 4] rfl (by decide) rfl hl.1 rfl (lv_room (Nat.le_of_ble_eq_true rfl)) dX9_acceptIfFitting_4 ⟨(Nat.le_of_ble_eq_true rfl), (Nat.le_of_ble_eq_true rfl)⟩) hP hD hS hA [3, 4] [0, 1, 2, 5] rfl rfl (by decide) (by decide) (fun u1 H locs hP hD hS => ?_)
  have hP : va_P g.1 vwCl [(q63, .inr (10, [w64, .int 0, .int 0])), (q1, .inr (11, [.ref q63, w53, w54, w55, w56, w57, w58, w59, w60, w61, w62])), (q47, .inl (g.2 0, 60, .inl f48)), (q2, .inr (8, [.ref q10, w4, .ref q47, w6, .int 1, w8, w9])), (q14, .inl (g.2 0, 40, .inl (upd (upd (upd (upd (upd (upd (upd (upd (upd f15 1 0) 4 1) 9 1) 14 1) 19 1) 24 1) 29 1) 34 1) 39 1))), (q10, .inr (5, [.ref q13, .ref q14]))] H := hP
  have hD : va_D A [(q63, .inr (10, [w64, .int 0, .int 0])), (q1, .inr (11, [.ref q63, w53, w54, w55, w56, w57, w58, w59, w60, w61, w62])), (q47, .inl (g.2 0, 60, .inl f48)), (q2, .inr (8, [.ref q10, w4, .ref q47, w6, .int 1, w8, w9])), (q14, .inl (g.2 0, 40, .inl (upd (upd (upd (upd (upd (upd (upd (upd (upd f15 1 0) 4 1) 9 1) 14 1) 19 1) 24 1) 29 1) 34 1) 39 1))), (q10, .inr (5, [.ref q13, .ref q14]))] := hD
  refine lv_if_eq (tgt := 17) hx hb dX9_acceptIfFitting_7 (by decide) (fun h => absurd h (by decide)) (fun _ => ?_)
  refine lv_aload_n hx hb dX9_acceptIfFitting_10 rfl (lv_at hl 1 rfl) ?_
  refine g_i (wr := [(q63, .inr (10, [w64, .int 0, .int 0])), (q1, .inr (11, [.ref q63, w53, w54, w55, w56, w57, w58, w59, w60, w61, w62]))]) (rV (rest := []) hx hb hml hown hE hP hD 3 rfl rfl (c1507_X6_hasFittingClips l g q2 q47 q10 q14 x50 w4 w6 w8 w9 (.ref q13) f48 (upd (upd (upd (upd (upd (upd (upd (upd (upd f15 1 0) 4 1) 9 1) 14 1) 19 1) 24 1) 29 1) 34 1) 39 1) (hf49) (hf51) (((pk_un (by decide)).trans ((pk_un (by decide)).trans ((pk_un (by decide)).trans ((pk_un (by decide)).trans ((pk_un (by decide)).trans ((pk_un (by decide)).trans ((pk_un (by decide)).trans ((pk_un (by decide)).trans pk_us))))))))) (((pk_un (by decide)).trans ((pk_un (by decide)).trans ((pk_un (by decide)).trans ((pk_un (by decide)).trans ((pk_un (by decide)).trans ((pk_un (by decide)).trans ((pk_un (by decide)).trans ((pk_un (by decide)).trans ((pk_un (by decide)).trans hf17)))))))))) H.size) (kV_X6_hasFittingClips hE (e703 hE) rfl rfl ⟨(Nat.le_of_ble_eq_true rfl), (Nat.le_of_ble_eq_true rfl)⟩) [4, 5, 2, 3] rfl (by decide) rfl hl.1 rfl (lv_room (Nat.le_of_ble_eq_true rfl)) dX9_acceptIfFitting_11 ⟨(Nat.le_of_ble_eq_true rfl), (Nat.le_of_ble_eq_true rfl)⟩) hP hD hS hA [4, 5, 2, 3] [0, 1] rfl rfl (by decide) (by decide) (fun u2 H locs hP hD hS => ?_)
  have hP : va_P g.1 vwCl [(q63, .inr (10, [w64, .int 0, .int 0])), (q1, .inr (11, [.ref q63, w53, w54, w55, w56, w57, w58, w59, w60, w61, w62])), (q47, .inl (g.2 0, 60, .inl f48)), (q2, .inr (8, [.ref q10, w4, .ref q47, w6, .int 1, w8, w9])), (q14, .inl (g.2 0, 40, .inl (upd (upd (upd (upd (upd (upd (upd (upd (upd f15 1 0) 4 1) 9 1) 14 1) 19 1) 24 1) 29 1) 34 1) 39 1))), (q10, .inr (5, [.ref q13, .ref q14]))] H := hP
  have hD : va_D A [(q63, .inr (10, [w64, .int 0, .int 0])), (q1, .inr (11, [.ref q63, w53, w54, w55, w56, w57, w58, w59, w60, w61, w62])), (q47, .inl (g.2 0, 60, .inl f48)), (q2, .inr (8, [.ref q10, w4, .ref q47, w6, .int 1, w8, w9])), (q14, .inl (g.2 0, 40, .inl (upd (upd (upd (upd (upd (upd (upd (upd (upd f15 1 0) 4 1) 9 1) 14 1) 19 1) 24 1) 29 1) 34 1) 39 1))), (q10, .inr (5, [.ref q13, .ref q14]))] := hD
  refine lv_if_ne (tgt := 28) hx hb dX9_acceptIfFitting_14 (by decide) (fun _ => ?_) (fun h => absurd h (by decide))
  refine lv_aload_n hx hb dX9_acceptIfFitting_28 rfl (lv_at hl 0 rfl) ?_
  refine g_v (wr := [(q47, .inl (g.2 0, 60, .inl f48)), (q2, .inr (8, [.ref q10, w4, .ref q47, w6, .int 1, w8, w9])), (q14, .inl (g.2 0, 40, .inl (upd (upd (upd (upd (upd (upd (upd (upd (upd f15 1 0) 4 1) 9 1) 14 1) 19 1) 24 1) 29 1) 34 1) 39 1))), (q10, .inr (5, [.ref q13, .ref q14]))]) (rV (rest := []) hx hb hml hown hE hP hD 1 rfl rfl (c191_X9_accept l g q1 q63 w53 w54 w55 w56 w57 w58 w59 w60 w61 w62 w64 H.size) (kV_X9_accept hE (e718 hE) rfl rfl ⟨(Nat.le_of_ble_eq_true rfl), (Nat.le_of_ble_eq_true rfl)⟩) [0, 1] rfl (by decide) rfl hl.1 rfl (lv_room (Nat.le_of_ble_eq_true rfl)) dX9_acceptIfFitting_29 ⟨(Nat.le_of_ble_eq_true rfl), (Nat.le_of_ble_eq_true rfl)⟩) hP hD hS hA [0, 1] [2, 3, 4, 5] rfl rfl (by decide) (by decide) (fun u3 H locs hP hD hS => ?_)
  have hP : va_P g.1 vwCl [(q47, .inl (g.2 0, 60, .inl f48)), (q2, .inr (8, [.ref q10, w4, .ref q47, w6, .int 1, w8, w9])), (q14, .inl (g.2 0, 40, .inl (upd (upd (upd (upd (upd (upd (upd (upd (upd f15 1 0) 4 1) 9 1) 14 1) 19 1) 24 1) 29 1) 34 1) 39 1))), (q10, .inr (5, [.ref q13, .ref q14])), (q63, .inr (10, [w64, .int 1, .int 1])), (q1, .inr (11, [.ref q63, w53, w54, w55, w56, w57, w58, w59, .int 0, .int 0, w62]))] H := hP
  have hD : va_D A [(q47, .inl (g.2 0, 60, .inl f48)), (q2, .inr (8, [.ref q10, w4, .ref q47, w6, .int 1, w8, w9])), (q14, .inl (g.2 0, 40, .inl (upd (upd (upd (upd (upd (upd (upd (upd (upd f15 1 0) 4 1) 9 1) 14 1) 19 1) 24 1) 29 1) 34 1) 39 1))), (q10, .inr (5, [.ref q13, .ref q14])), (q63, .inr (10, [w64, .int 1, .int 1])), (q1, .inr (11, [.ref q63, w53, w54, w55, w56, w57, w58, w59, .int 0, .int 0, w62]))] := hD
  exact x_vret hx hb hr hlocks hP hD hS hAe hsz (Nat.le_of_ble_eq_true rfl) (Nat.le_of_ble_eq_true rfl) (fun _ => 0) [0, 1, 2, 3, 4, 5] (by decide) rfl dX9_acceptIfFitting_32

set_option maxHeartbeats 4000000 in
set_option maxRecDepth 100000 in
theorem c1509_X6_clipCount (l : Launch) (g : gG) (q1 : Nat) (w2 w3 w4 w5 w7 w8 : Value) (sz : Nat) : Met l yX6_clipCount [Cond.code yX6_clipCount cX6_clipCount 1 (some .int)] ({ frames := 0, cells := 0, slots := 0, locals := 0 } : Room) (va_Pc [.ref q1] (PX g sz [(q1, .inr (8, [w2, w3, w4, w5, .int 1, w7, w8]))])) (QI g [(q1, .inr (8, [w2, w3, w4, w5, .int 1, w7, w8]))] sz 1 (fun _ => [(q1, .inr (8, [w2, w3, w4, w5, .int 1, w7, w8]))])) 0 0 (va_A [(q1, .inr (8, [w2, w3, w4, w5, .int 1, w7, w8]))] sz) := by
  refine ofN (by decide) (Nat.le_of_ble_eq_true rfl) rfl ?_
  intro p e s m args below meth c A ls hAe hsz hx hb hml hr hlocks hin hown hE hP hD hA hS hl
  have hown : s.vm.findClass RX6 = some m.cls := hown
  refine lv_aload_n hx hb dX6_clipCount_0 rfl (lv_at hl 0 rfl) ?_
  refine gf_RX6_37 hx hb hown hE hP 0 rfl rfl dX6_clipCount_1 ?_
  exact x_zret hx hb hr rfl rfl hlocks hP hD hS hAe hsz (Nat.le_of_ble_eq_true rfl) (Nat.le_of_ble_eq_true rfl) (fun _ => 0) [0] (by decide) rfl dX6_clipCount_4

set_option maxHeartbeats 4000000 in
set_option maxRecDepth 100000 in
theorem c1510_X9_addClip (l : Launch) (g : gG) (q1 q25 q29 q32 q34 q42 q43 q44 q45 q53 q54 q55 q56 q59 q60 q63 q64 q71 q72 q77 q78 : Nat) (x2 x3 x4 x5 : Int32) (w15 w16 w17 w18 w19 w20 w21 w22 w23 w24 w39 w40 w41 w75 w76 : Value) (f30 : Nat → Option Nat) (f65 : Nat → Int32) (f66 : Nat → Int32) (f79 : Nat → Int32) (f80 : Nat → Int32) (hf31 : f30 1 = some q32) (hf33 : f30 0 = some q34) (hf81 : f66 0 = 0) (hf82 : f66 2 = 0) (hf83 : f66 3 = 0) (hf84 : f66 5 = 0) (hf85 : f66 6 = 0) (hf86 : f66 7 = 0) (hf87 : f66 8 = 0) (hf88 : f66 10 = 0) (hf89 : f66 11 = 0) (hf90 : f66 12 = 0) (hf91 : f66 13 = 0) (hf92 : f66 15 = 0) (hf93 : f66 16 = 0) (hf94 : f66 17 = 0) (hf95 : f66 18 = 0) (hf96 : f66 20 = 0) (hf97 : f66 21 = 0) (hf98 : f66 22 = 0) (hf99 : f66 23 = 0) (hf100 : f66 25 = 0) (hf101 : f66 26 = 0) (hf102 : f66 27 = 0) (hf103 : f66 28 = 0) (hf104 : f66 30 = 0) (hf105 : f66 31 = 0) (hf106 : f66 32 = 0) (hf107 : f66 33 = 0) (hf108 : f66 35 = 0) (hf109 : f66 36 = 0) (hf110 : f66 37 = 0) (hf111 : f66 38 = 0) (h6 : (0 : Int32) ≤ x2) (h7 : x2 ≤ 9999) (h8 : (1 : Int32) ≤ x3) (h9 : x3 ≤ 9) (h10 : ((-50) : Int32) ≤ x4) (h11 : x4 ≤ 50) (h12 : (0 : Int32) ≤ x5) (h13 : x5 ≤ 3) (sz : Nat) : Met l yX9_addClip [Cond.code yX9_addClip cX9_addClip 7 (some .int)] ({ frames := 5, cells := 0, slots := 0, locals := 148 } : Room) (va_Pc [.ref q1, .int x2, .int 0, .int x3, .int x4, .int x5] (PX g sz [(q45, .inl (g.2 0, 20, .inl f80)), (q56, .inl (g.2 0, 20, .inl f80)), (q44, .inl (g.2 0, 60, .inl f65)), (q55, .inl (g.2 0, 60, .inl f65)), (q78, .inl (g.2 0, 10, .inl f79)), (q72, .inl (g.2 0, 10, .inl f79)), (q77, .inl (g.2 0, 10, .inl f65)), (q71, .inl (g.2 0, 10, .inl f65)), (q43, .inr (9, [.ref q77, .ref q78, w75, w76])), (q54, .inr (9, [.ref q71, .ref q72, .int 1, .int 0])), (q64, .inl (g.2 0, 40, .inl f66)), (q60, .inl (g.2 0, 40, .inl f66)), (q63, .inl (g.2 0, 384, .inl f65)), (q59, .inl (g.2 0, 384, .inl f65)), (q42, .inr (5, [.ref q63, .ref q64])), (q53, .inr (5, [.ref q59, .ref q60])), (q34, .inr (8, [.ref q53, .ref q54, .ref q55, .ref q56, .int 0, .int 4, .int 0])), (q32, .inr (8, [.ref q42, .ref q43, .ref q44, .ref q45, w39, w40, w41])), (q29, .inl (g.2 3, 10, .inr (.inr (.inr (.inr f30))))), (q25, .inr (10, [.ref q29, .int 0, .int 0])), (q1, .inr (11, [.ref q25, w15, w16, w17, w18, w19, w20, w21, w22, w23, w24]))])) (QI g [(q45, .inl (g.2 0, 20, .inl f80)), (q56, .inl (g.2 0, 20, .inl f80)), (q44, .inl (g.2 0, 60, .inl f65)), (q55, .inl (g.2 0, 60, .inl f65)), (q78, .inl (g.2 0, 10, .inl f79)), (q72, .inl (g.2 0, 10, .inl f79)), (q77, .inl (g.2 0, 10, .inl f65)), (q71, .inl (g.2 0, 10, .inl f65)), (q43, .inr (9, [.ref q77, .ref q78, w75, w76])), (q54, .inr (9, [.ref q71, .ref q72, .int 1, .int 0])), (q64, .inl (g.2 0, 40, .inl f66)), (q60, .inl (g.2 0, 40, .inl f66)), (q63, .inl (g.2 0, 384, .inl f65)), (q59, .inl (g.2 0, 384, .inl f65)), (q42, .inr (5, [.ref q63, .ref q64])), (q53, .inr (5, [.ref q59, .ref q60])), (q34, .inr (8, [.ref q53, .ref q54, .ref q55, .ref q56, .int 0, .int 4, .int 0])), (q32, .inr (8, [.ref q42, .ref q43, .ref q44, .ref q45, w39, w40, w41])), (q29, .inl (g.2 3, 10, .inr (.inr (.inr (.inr f30))))), (q25, .inr (10, [.ref q29, .int 0, .int 0])), (q1, .inr (11, [.ref q25, w15, w16, w17, w18, w19, w20, w21, w22, w23, w24]))] sz 0 (fun _ => [(q29, .inl (g.2 3, 10, .inr (.inr (.inr (.inr f30))))), (q34, .inr (8, [.ref q53, .ref q54, .ref q55, .ref q56, .int 0, .int 4, .int 0])), (q53, .inr (5, [.ref q59, .ref q60])), (q63, .inl (g.2 0, 384, .inl f65)), (q59, .inl (g.2 0, 384, .inl f65)), (q60, .inl (g.2 0, 40, .inl f66)), (q43, .inr (9, [.ref q77, .ref q78, .int 1, .int 0])), (q54, .inr (9, [.ref q71, .ref q72, .int 1, .int 0])), (q77, .inl (g.2 0, 10, .inl f65)), (q71, .inl (g.2 0, 10, .inl f65)), (q78, .inl (g.2 0, 10, .inl f79)), (q72, .inl (g.2 0, 10, .inl f79)), (q55, .inl (g.2 0, 60, .inl f65)), (q45, .inl (g.2 0, 20, .inl f80)), (q56, .inl (g.2 0, 20, .inl f80)), (q44, .inl (g.2 0, 60, .inl (upd (upd (upd (upd (upd f65 0 x2) 1 0) 2 x3) 3 x4) 4 x5))), (q64, .inl (g.2 0, 40, .inl (upd (upd (upd (upd (upd (upd (upd (upd (upd f66 1 0) 4 1) 9 1) 14 1) 19 1) 24 1) 29 1) 34 1) 39 1))), (q42, .inr (5, [.ref q63, .ref q64])), (q25, .inr (10, [.ref q29, .int 1, .int 1])), (q1, .inr (11, [.ref q25, w15, w16, w17, w18, w19, w20, w21, .int 0, .int 0, w24])), (q32, .inr (8, [.ref q42, .ref q43, .ref q44, .ref q45, .int 1, .int 4, .int 0]))])) 0 0 (va_A [(q45, .inl (g.2 0, 20, .inl f80)), (q56, .inl (g.2 0, 20, .inl f80)), (q44, .inl (g.2 0, 60, .inl f65)), (q55, .inl (g.2 0, 60, .inl f65)), (q78, .inl (g.2 0, 10, .inl f79)), (q72, .inl (g.2 0, 10, .inl f79)), (q77, .inl (g.2 0, 10, .inl f65)), (q71, .inl (g.2 0, 10, .inl f65)), (q43, .inr (9, [.ref q77, .ref q78, w75, w76])), (q54, .inr (9, [.ref q71, .ref q72, .int 1, .int 0])), (q64, .inl (g.2 0, 40, .inl f66)), (q60, .inl (g.2 0, 40, .inl f66)), (q63, .inl (g.2 0, 384, .inl f65)), (q59, .inl (g.2 0, 384, .inl f65)), (q42, .inr (5, [.ref q63, .ref q64])), (q53, .inr (5, [.ref q59, .ref q60])), (q34, .inr (8, [.ref q53, .ref q54, .ref q55, .ref q56, .int 0, .int 4, .int 0])), (q32, .inr (8, [.ref q42, .ref q43, .ref q44, .ref q45, w39, w40, w41])), (q29, .inl (g.2 3, 10, .inr (.inr (.inr (.inr f30))))), (q25, .inr (10, [.ref q29, .int 0, .int 0])), (q1, .inr (11, [.ref q25, w15, w16, w17, w18, w19, w20, w21, w22, w23, w24]))] sz) := by
  refine ofN (by decide) (Nat.le_of_ble_eq_true rfl) rfl ?_
  intro p e s m args below meth c A ls hAe hsz hx hb hml hr hlocks hin hown hE hP hD hA hS hl
  have hown : s.vm.findClass RX9 = some m.cls := hown
  refine lv_iload_n hx hb dX9_addClip_0 rfl (lv_at hl 1 rfl) ?_
  refine lv_iconst (v := 0) hx hb dX9_addClip_1 (by decide) ?_
  refine lv_sipush (v := 9999) hx hb dX9_addClip_2 (by decide) ?_
  refine g0_v (rS (rest := []) hx hb hml hown hE hP hD (c1477_X9_requireRange l g x2 h6 h7 s.heap.size) (kS_X9_requireRange hE (e636 hE) rfl rfl ⟨(Nat.le_of_ble_eq_true rfl), (Nat.le_of_ble_eq_true rfl)⟩) [] rfl (by decide) rfl hl.1 rfl (lv_room (Nat.le_of_ble_eq_true rfl)) dX9_addClip_5 ⟨(Nat.le_of_ble_eq_true rfl), (Nat.le_of_ble_eq_true rfl)⟩) hP hD hS hA (fun u9 H locs hP hS => ?_)
  refine lv_iload_n hx hb dX9_addClip_8 rfl (lv_at hl 2 rfl) ?_
  refine lv_iconst (v := 0) hx hb dX9_addClip_9 (by decide) ?_
  refine lv_bipush (v := 7) hx hb dX9_addClip_10 (by decide) ?_
  refine g0_v (rS (rest := []) hx hb hml hown hE hP hD (c1482_X9_requireRange l g 0 (by decide) (by decide) H.size) (kS_X9_requireRange hE (e636 hE) rfl rfl ⟨(Nat.le_of_ble_eq_true rfl), (Nat.le_of_ble_eq_true rfl)⟩) [] rfl (by decide) rfl hl.1 rfl (lv_room (Nat.le_of_ble_eq_true rfl)) dX9_addClip_12 ⟨(Nat.le_of_ble_eq_true rfl), (Nat.le_of_ble_eq_true rfl)⟩) hP hD hS hA (fun u9 H locs hP hS => ?_)
  refine lv_iload_n hx hb dX9_addClip_15 rfl (lv_at hl 3 rfl) ?_
  refine lv_iconst (v := 1) hx hb dX9_addClip_16 (by decide) ?_
  refine lv_bipush (v := 9) hx hb dX9_addClip_17 (by decide) ?_
  refine g0_v (rS (rest := []) hx hb hml hown hE hP hD (c117_X9_requireRange l g x3 h8 h9 H.size) (kS_X9_requireRange hE (e636 hE) rfl rfl ⟨(Nat.le_of_ble_eq_true rfl), (Nat.le_of_ble_eq_true rfl)⟩) [] rfl (by decide) rfl hl.1 rfl (lv_room (Nat.le_of_ble_eq_true rfl)) dX9_addClip_19 ⟨(Nat.le_of_ble_eq_true rfl), (Nat.le_of_ble_eq_true rfl)⟩) hP hD hS hA (fun u9 H locs hP hS => ?_)
  refine lv_iload hx hb dX9_addClip_22 (lv_at hl 4 rfl) ?_
  refine lv_bipush (v := (-50)) hx hb dX9_addClip_24 (by decide) ?_
  refine lv_bipush (v := 50) hx hb dX9_addClip_26 (by decide) ?_
  refine g0_v (rS (rest := []) hx hb hml hown hE hP hD (c1491_X9_requireRange l g x4 h10 h11 H.size) (kS_X9_requireRange hE (e636 hE) rfl rfl ⟨(Nat.le_of_ble_eq_true rfl), (Nat.le_of_ble_eq_true rfl)⟩) [] rfl (by decide) rfl hl.1 rfl (lv_room (Nat.le_of_ble_eq_true rfl)) dX9_addClip_28 ⟨(Nat.le_of_ble_eq_true rfl), (Nat.le_of_ble_eq_true rfl)⟩) hP hD hS hA (fun u9 H locs hP hS => ?_)
  refine lv_iload hx hb dX9_addClip_31 (lv_at hl 5 rfl) ?_
  refine lv_iconst (v := 0) hx hb dX9_addClip_33 (by decide) ?_
  refine lv_iconst (v := 3) hx hb dX9_addClip_34 (by decide) ?_
  refine g0_v (rS (rest := []) hx hb hml hown hE hP hD (c815_X9_requireRange l g x5 h12 h13 H.size) (kS_X9_requireRange hE (e636 hE) rfl rfl ⟨(Nat.le_of_ble_eq_true rfl), (Nat.le_of_ble_eq_true rfl)⟩) [] rfl (by decide) rfl hl.1 rfl (lv_room (Nat.le_of_ble_eq_true rfl)) dX9_addClip_35 ⟨(Nat.le_of_ble_eq_true rfl), (Nat.le_of_ble_eq_true rfl)⟩) hP hD hS hA (fun u9 H locs hP hS => ?_)
  refine lv_aload_n hx hb dX9_addClip_38 rfl (lv_at hl 0 rfl) ?_
  refine gf_RX9_12 hx hb hown hE hP 20 rfl rfl dX9_addClip_39 ?_
  refine g_r (wr := [(q1, .inr (11, [.ref q25, w15, w16, w17, w18, w19, w20, w21, w22, w23, w24]))]) (rV (rest := []) hx hb hml hown hE hP hD 19 rfl rfl (c127_X8_draft l g q25 q29 q32 q34 q42 q53 q59 q63 q60 q64 q43 q54 q71 q77 q72 q78 q55 q44 q56 q45 (.int 0) w39 w40 w41 w75 w76 f30 f65 f66 f79 f80 (hf31) (hf33) H.size) (kV_X8_draft hE (e659 hE) rfl rfl ⟨(Nat.le_of_ble_eq_true rfl), (Nat.le_of_ble_eq_true rfl)⟩) [0, 1, 2, 3, 4, 5, 6, 7, 8, 9, 10, 11, 12, 13, 14, 15, 16, 17, 18, 19] rfl (by decide) rfl hl.1 rfl (lv_room (Nat.le_of_ble_eq_true rfl)) dX9_addClip_42 ⟨(Nat.le_of_ble_eq_true rfl), (Nat.le_of_ble_eq_true rfl)⟩) hP hD hS hA [0, 1, 2, 3, 4, 5, 6, 7, 8, 9, 10, 11, 12, 13, 14, 15, 16, 17, 18, 19] [20] rfl rfl (by decide) (by decide) (fun u6 H locs hP hD hS => ?_)
  have hP : va_P g.1 vwCl [(q1, .inr (11, [.ref q25, w15, w16, w17, w18, w19, w20, w21, w22, w23, w24])), (q29, .inl (g.2 3, 10, .inr (.inr (.inr (.inr f30))))), (q25, .inr (10, [.ref q29, .int 0, .int 0])), (q34, .inr (8, [.ref q53, .ref q54, .ref q55, .ref q56, .int 0, .int 4, .int 0])), (q32, .inr (8, [.ref q42, .ref q43, .ref q44, .ref q45, .int 0, .int 4, .int 0])), (q42, .inr (5, [.ref q63, .ref q64])), (q53, .inr (5, [.ref q59, .ref q60])), (q63, .inl (g.2 0, 384, .inl f65)), (q59, .inl (g.2 0, 384, .inl f65)), (q64, .inl (g.2 0, 40, .inl f66)), (q60, .inl (g.2 0, 40, .inl f66)), (q43, .inr (9, [.ref q77, .ref q78, .int 1, .int 0])), (q54, .inr (9, [.ref q71, .ref q72, .int 1, .int 0])), (q77, .inl (g.2 0, 10, .inl f65)), (q71, .inl (g.2 0, 10, .inl f65)), (q78, .inl (g.2 0, 10, .inl f79)), (q72, .inl (g.2 0, 10, .inl f79)), (q44, .inl (g.2 0, 60, .inl f65)), (q55, .inl (g.2 0, 60, .inl f65)), (q45, .inl (g.2 0, 20, .inl f80)), (q56, .inl (g.2 0, 20, .inl f80))] H := hP
  have hD : va_D A [(q1, .inr (11, [.ref q25, w15, w16, w17, w18, w19, w20, w21, w22, w23, w24])), (q29, .inl (g.2 3, 10, .inr (.inr (.inr (.inr f30))))), (q25, .inr (10, [.ref q29, .int 0, .int 0])), (q34, .inr (8, [.ref q53, .ref q54, .ref q55, .ref q56, .int 0, .int 4, .int 0])), (q32, .inr (8, [.ref q42, .ref q43, .ref q44, .ref q45, .int 0, .int 4, .int 0])), (q42, .inr (5, [.ref q63, .ref q64])), (q53, .inr (5, [.ref q59, .ref q60])), (q63, .inl (g.2 0, 384, .inl f65)), (q59, .inl (g.2 0, 384, .inl f65)), (q64, .inl (g.2 0, 40, .inl f66)), (q60, .inl (g.2 0, 40, .inl f66)), (q43, .inr (9, [.ref q77, .ref q78, .int 1, .int 0])), (q54, .inr (9, [.ref q71, .ref q72, .int 1, .int 0])), (q77, .inl (g.2 0, 10, .inl f65)), (q71, .inl (g.2 0, 10, .inl f65)), (q78, .inl (g.2 0, 10, .inl f79)), (q72, .inl (g.2 0, 10, .inl f79)), (q44, .inl (g.2 0, 60, .inl f65)), (q55, .inl (g.2 0, 60, .inl f65)), (q45, .inl (g.2 0, 20, .inl f80)), (q56, .inl (g.2 0, 20, .inl f80))] := hD
  refine lv_astore (lv' := [(6, .ref q32), (0, .ref q1), (1, .int x2), (2, .int 0), (3, .int x3), (4, .int x4), (5, .int x5)]) hx hb dX9_addClip_45 hl (by decide) rfl (fun ls hl => ?_)
  refine lv_aload hx hb dX9_addClip_47 (lv_at hl 0 rfl) ?_
  refine g_i (wr := [(q1, .inr (11, [.ref q25, w15, w16, w17, w18, w19, w20, w21, w22, w23, w24])), (q29, .inl (g.2 3, 10, .inr (.inr (.inr (.inr f30))))), (q25, .inr (10, [.ref q29, .int 0, .int 0])), (q34, .inr (8, [.ref q53, .ref q54, .ref q55, .ref q56, .int 0, .int 4, .int 0])), (q42, .inr (5, [.ref q63, .ref q64])), (q53, .inr (5, [.ref q59, .ref q60])), (q63, .inl (g.2 0, 384, .inl f65)), (q59, .inl (g.2 0, 384, .inl f65)), (q64, .inl (g.2 0, 40, .inl f66)), (q60, .inl (g.2 0, 40, .inl f66)), (q43, .inr (9, [.ref q77, .ref q78, .int 1, .int 0])), (q54, .inr (9, [.ref q71, .ref q72, .int 1, .int 0])), (q77, .inl (g.2 0, 10, .inl f65)), (q71, .inl (g.2 0, 10, .inl f65)), (q78, .inl (g.2 0, 10, .inl f79)), (q72, .inl (g.2 0, 10, .inl f79)), (q44, .inl (g.2 0, 60, .inl f65)), (q55, .inl (g.2 0, 60, .inl f65)), (q45, .inl (g.2 0, 20, .inl f80)), (q56, .inl (g.2 0, 20, .inl f80))]) (rV (rest := []) hx hb hml hown hE hP hD 4 rfl rfl (c72_X6_clipCount l g q32 (.ref q42) (.ref q43) (.ref q44) (.ref q45) (.int 4) (.int 0) H.size) (kV_X6_clipCount hE (e297 hE) rfl rfl ⟨(Nat.le_of_ble_eq_true rfl), (Nat.le_of_ble_eq_true rfl)⟩) [4] rfl (by decide) rfl hl.1 rfl (lv_room (Nat.le_of_ble_eq_true rfl)) dX9_addClip_49 ⟨(Nat.le_of_ble_eq_true rfl), (Nat.le_of_ble_eq_true rfl)⟩) hP hD hS hA [4] [0, 1, 2, 3, 5, 6, 7, 8, 9, 10, 11, 12, 13, 14, 15, 16, 17, 18, 19, 20] rfl rfl (by decide) (by decide) (fun u7 H locs hP hD hS => ?_)
  have hP : va_P g.1 vwCl [(q1, .inr (11, [.ref q25, w15, w16, w17, w18, w19, w20, w21, w22, w23, w24])), (q29, .inl (g.2 3, 10, .inr (.inr (.inr (.inr f30))))), (q25, .inr (10, [.ref q29, .int 0, .int 0])), (q34, .inr (8, [.ref q53, .ref q54, .ref q55, .ref q56, .int 0, .int 4, .int 0])), (q42, .inr (5, [.ref q63, .ref q64])), (q53, .inr (5, [.ref q59, .ref q60])), (q63, .inl (g.2 0, 384, .inl f65)), (q59, .inl (g.2 0, 384, .inl f65)), (q64, .inl (g.2 0, 40, .inl f66)), (q60, .inl (g.2 0, 40, .inl f66)), (q43, .inr (9, [.ref q77, .ref q78, .int 1, .int 0])), (q54, .inr (9, [.ref q71, .ref q72, .int 1, .int 0])), (q77, .inl (g.2 0, 10, .inl f65)), (q71, .inl (g.2 0, 10, .inl f65)), (q78, .inl (g.2 0, 10, .inl f79)), (q72, .inl (g.2 0, 10, .inl f79)), (q44, .inl (g.2 0, 60, .inl f65)), (q55, .inl (g.2 0, 60, .inl f65)), (q45, .inl (g.2 0, 20, .inl f80)), (q56, .inl (g.2 0, 20, .inl f80)), (q32, .inr (8, [.ref q42, .ref q43, .ref q44, .ref q45, .int 0, .int 4, .int 0]))] H := hP
  have hD : va_D A [(q1, .inr (11, [.ref q25, w15, w16, w17, w18, w19, w20, w21, w22, w23, w24])), (q29, .inl (g.2 3, 10, .inr (.inr (.inr (.inr f30))))), (q25, .inr (10, [.ref q29, .int 0, .int 0])), (q34, .inr (8, [.ref q53, .ref q54, .ref q55, .ref q56, .int 0, .int 4, .int 0])), (q42, .inr (5, [.ref q63, .ref q64])), (q53, .inr (5, [.ref q59, .ref q60])), (q63, .inl (g.2 0, 384, .inl f65)), (q59, .inl (g.2 0, 384, .inl f65)), (q64, .inl (g.2 0, 40, .inl f66)), (q60, .inl (g.2 0, 40, .inl f66)), (q43, .inr (9, [.ref q77, .ref q78, .int 1, .int 0])), (q54, .inr (9, [.ref q71, .ref q72, .int 1, .int 0])), (q77, .inl (g.2 0, 10, .inl f65)), (q71, .inl (g.2 0, 10, .inl f65)), (q78, .inl (g.2 0, 10, .inl f79)), (q72, .inl (g.2 0, 10, .inl f79)), (q44, .inl (g.2 0, 60, .inl f65)), (q55, .inl (g.2 0, 60, .inl f65)), (q45, .inl (g.2 0, 20, .inl f80)), (q56, .inl (g.2 0, 20, .inl f80)), (q32, .inr (8, [.ref q42, .ref q43, .ref q44, .ref q45, .int 0, .int 4, .int 0]))] := hD
  refine lv_bipush (v := 12) hx hb dX9_addClip_52 (by decide) ?_
  refine lv_icmp_lt (tgt := 67) hx hb dX9_addClip_54 (by decide) (fun _ => ?_) (fun h => absurd (by decide) h)
  refine lv_aload hx hb dX9_addClip_67 (lv_at hl 0 rfl) ?_
  refine lv_iload_n hx hb dX9_addClip_69 rfl (lv_at hl 2 rfl) ?_
  refine lv_iload_n hx hb dX9_addClip_70 rfl (lv_at hl 3 rfl) ?_
  refine lv_iload_n hx hb dX9_addClip_71 rfl (lv_at hl 4 rfl) ?_
  refine lv_iload hx hb dX9_addClip_72 (lv_at hl 5 rfl) ?_
  refine lv_iload hx hb dX9_addClip_74 (lv_at hl 6 rfl) ?_
  refine g_v (wr := [(q1, .inr (11, [.ref q25, w15, w16, w17, w18, w19, w20, w21, w22, w23, w24])), (q29, .inl (g.2 3, 10, .inr (.inr (.inr (.inr f30))))), (q25, .inr (10, [.ref q29, .int 0, .int 0])), (q34, .inr (8, [.ref q53, .ref q54, .ref q55, .ref q56, .int 0, .int 4, .int 0])), (q42, .inr (5, [.ref q63, .ref q64])), (q53, .inr (5, [.ref q59, .ref q60])), (q63, .inl (g.2 0, 384, .inl f65)), (q59, .inl (g.2 0, 384, .inl f65)), (q64, .inl (g.2 0, 40, .inl f66)), (q60, .inl (g.2 0, 40, .inl f66)), (q43, .inr (9, [.ref q77, .ref q78, .int 1, .int 0])), (q54, .inr (9, [.ref q71, .ref q72, .int 1, .int 0])), (q77, .inl (g.2 0, 10, .inl f65)), (q71, .inl (g.2 0, 10, .inl f65)), (q78, .inl (g.2 0, 10, .inl f79)), (q72, .inl (g.2 0, 10, .inl f79)), (q55, .inl (g.2 0, 60, .inl f65)), (q45, .inl (g.2 0, 20, .inl f80)), (q56, .inl (g.2 0, 20, .inl f80))]) (rV (rest := []) hx hb hml hown hE hP hD 20 rfl rfl (c1501_X6_putClip l g q32 q44 x2 0 x3 x4 x5 (.ref q42) (.ref q43) (.ref q45) (.int 4) (.int 0) f65 H.size) (kV_X6_putClip hE (e808 hE) rfl rfl ⟨(Nat.le_of_ble_eq_true rfl), (Nat.le_of_ble_eq_true rfl)⟩) [16, 20] rfl (by decide) rfl hl.1 rfl (lv_room (Nat.le_of_ble_eq_true rfl)) dX9_addClip_76 ⟨(Nat.le_of_ble_eq_true rfl), (Nat.le_of_ble_eq_true rfl)⟩) hP hD hS hA [16, 20] [0, 1, 2, 3, 4, 5, 6, 7, 8, 9, 10, 11, 12, 13, 14, 15, 17, 18, 19] rfl rfl (by decide) (by decide) (fun u8 H locs hP hD hS => ?_)
  have hP : va_P g.1 vwCl [(q1, .inr (11, [.ref q25, w15, w16, w17, w18, w19, w20, w21, w22, w23, w24])), (q29, .inl (g.2 3, 10, .inr (.inr (.inr (.inr f30))))), (q25, .inr (10, [.ref q29, .int 0, .int 0])), (q34, .inr (8, [.ref q53, .ref q54, .ref q55, .ref q56, .int 0, .int 4, .int 0])), (q42, .inr (5, [.ref q63, .ref q64])), (q53, .inr (5, [.ref q59, .ref q60])), (q63, .inl (g.2 0, 384, .inl f65)), (q59, .inl (g.2 0, 384, .inl f65)), (q64, .inl (g.2 0, 40, .inl f66)), (q60, .inl (g.2 0, 40, .inl f66)), (q43, .inr (9, [.ref q77, .ref q78, .int 1, .int 0])), (q54, .inr (9, [.ref q71, .ref q72, .int 1, .int 0])), (q77, .inl (g.2 0, 10, .inl f65)), (q71, .inl (g.2 0, 10, .inl f65)), (q78, .inl (g.2 0, 10, .inl f79)), (q72, .inl (g.2 0, 10, .inl f79)), (q55, .inl (g.2 0, 60, .inl f65)), (q45, .inl (g.2 0, 20, .inl f80)), (q56, .inl (g.2 0, 20, .inl f80)), (q32, .inr (8, [.ref q42, .ref q43, .ref q44, .ref q45, .int 1, .int 4, .int 0])), (q44, .inl (g.2 0, 60, .inl (upd (upd (upd (upd (upd f65 0 x2) 1 0) 2 x3) 3 x4) 4 x5)))] H := hP
  have hD : va_D A [(q1, .inr (11, [.ref q25, w15, w16, w17, w18, w19, w20, w21, w22, w23, w24])), (q29, .inl (g.2 3, 10, .inr (.inr (.inr (.inr f30))))), (q25, .inr (10, [.ref q29, .int 0, .int 0])), (q34, .inr (8, [.ref q53, .ref q54, .ref q55, .ref q56, .int 0, .int 4, .int 0])), (q42, .inr (5, [.ref q63, .ref q64])), (q53, .inr (5, [.ref q59, .ref q60])), (q63, .inl (g.2 0, 384, .inl f65)), (q59, .inl (g.2 0, 384, .inl f65)), (q64, .inl (g.2 0, 40, .inl f66)), (q60, .inl (g.2 0, 40, .inl f66)), (q43, .inr (9, [.ref q77, .ref q78, .int 1, .int 0])), (q54, .inr (9, [.ref q71, .ref q72, .int 1, .int 0])), (q77, .inl (g.2 0, 10, .inl f65)), (q71, .inl (g.2 0, 10, .inl f65)), (q78, .inl (g.2 0, 10, .inl f79)), (q72, .inl (g.2 0, 10, .inl f79)), (q55, .inl (g.2 0, 60, .inl f65)), (q45, .inl (g.2 0, 20, .inl f80)), (q56, .inl (g.2 0, 20, .inl f80)), (q32, .inr (8, [.ref q42, .ref q43, .ref q44, .ref q45, .int 1, .int 4, .int 0])), (q44, .inl (g.2 0, 60, .inl (upd (upd (upd (upd (upd f65 0 x2) 1 0) 2 x3) 3 x4) 4 x5)))] := hD
  refine lv_aload_n hx hb dX9_addClip_79 rfl (lv_at hl 1 rfl) ?_
  refine lv_aload hx hb dX9_addClip_80 (lv_at hl 0 rfl) ?_
  refine g_v (wr := [(q29, .inl (g.2 3, 10, .inr (.inr (.inr (.inr f30))))), (q34, .inr (8, [.ref q53, .ref q54, .ref q55, .ref q56, .int 0, .int 4, .int 0])), (q53, .inr (5, [.ref q59, .ref q60])), (q63, .inl (g.2 0, 384, .inl f65)), (q59, .inl (g.2 0, 384, .inl f65)), (q60, .inl (g.2 0, 40, .inl f66)), (q43, .inr (9, [.ref q77, .ref q78, .int 1, .int 0])), (q54, .inr (9, [.ref q71, .ref q72, .int 1, .int 0])), (q77, .inl (g.2 0, 10, .inl f65)), (q71, .inl (g.2 0, 10, .inl f65)), (q78, .inl (g.2 0, 10, .inl f79)), (q72, .inl (g.2 0, 10, .inl f79)), (q55, .inl (g.2 0, 60, .inl f65)), (q45, .inl (g.2 0, 20, .inl f80)), (q56, .inl (g.2 0, 20, .inl f80))]) (rV (rest := []) hx hb hml hown hE hP hD 0 rfl rfl (c1508_X9_acceptIfFitting l g q1 q32 q42 q63 q64 q44 q25 x3 (.ref q43) (.ref q45) (.int 4) (.int 0) w15 w16 w17 w18 w19 w20 w21 w22 w23 w24 (.ref q29) f66 (upd (upd (upd (upd (upd f65 0 x2) 1 0) 2 x3) 3 x4) 4 x5) (hf81) (hf82) (hf83) (hf84) (hf85) (hf86) (hf87) (hf88) (hf89) (hf90) (hf91) (hf92) (hf93) (hf94) (hf95) (hf96) (hf97) (hf98) (hf99) (hf100) (hf101) (hf102) (hf103) (hf104) (hf105) (hf106) (hf107) (hf108) (hf109) (hf110) (hf111) (((pk_un (by decide)).trans ((pk_un (by decide)).trans pk_us))) (((pk_un (by decide)).trans ((pk_un (by decide)).trans ((pk_un (by decide)).trans pk_us)))) H.size) (kV_X9_acceptIfFitting hE (e690 hE) rfl rfl ⟨(Nat.le_of_ble_eq_true rfl), (Nat.le_of_ble_eq_true rfl)⟩) [2, 0, 20, 8, 4, 19] rfl (by decide) rfl hl.1 rfl (lv_room (Nat.le_of_ble_eq_true rfl)) dX9_addClip_82 ⟨(Nat.le_of_ble_eq_true rfl), (Nat.le_of_ble_eq_true rfl)⟩) hP hD hS hA [2, 0, 20, 8, 4, 19] [1, 3, 5, 6, 7, 9, 10, 11, 12, 13, 14, 15, 16, 17, 18] rfl rfl (by decide) (by decide) (fun u9 H locs hP hD hS => ?_)
  have hP : va_P g.1 vwCl [(q29, .inl (g.2 3, 10, .inr (.inr (.inr (.inr f30))))), (q34, .inr (8, [.ref q53, .ref q54, .ref q55, .ref q56, .int 0, .int 4, .int 0])), (q53, .inr (5, [.ref q59, .ref q60])), (q63, .inl (g.2 0, 384, .inl f65)), (q59, .inl (g.2 0, 384, .inl f65)), (q60, .inl (g.2 0, 40, .inl f66)), (q43, .inr (9, [.ref q77, .ref q78, .int 1, .int 0])), (q54, .inr (9, [.ref q71, .ref q72, .int 1, .int 0])), (q77, .inl (g.2 0, 10, .inl f65)), (q71, .inl (g.2 0, 10, .inl f65)), (q78, .inl (g.2 0, 10, .inl f79)), (q72, .inl (g.2 0, 10, .inl f79)), (q55, .inl (g.2 0, 60, .inl f65)), (q45, .inl (g.2 0, 20, .inl f80)), (q56, .inl (g.2 0, 20, .inl f80)), (q44, .inl (g.2 0, 60, .inl (upd (upd (upd (upd (upd f65 0 x2) 1 0) 2 x3) 3 x4) 4 x5))), (q32, .inr (8, [.ref q42, .ref q43, .ref q44, .ref q45, .int 1, .int 4, .int 0])), (q64, .inl (g.2 0, 40, .inl (upd (upd (upd (upd (upd (upd (upd (upd (upd f66 1 0) 4 1) 9 1) 14 1) 19 1) 24 1) 29 1) 34 1) 39 1))), (q42, .inr (5, [.ref q63, .ref q64])), (q25, .inr (10, [.ref q29, .int 1, .int 1])), (q1, .inr (11, [.ref q25, w15, w16, w17, w18, w19, w20, w21, .int 0, .int 0, w24]))] H := hP
  have hD : va_D A [(q29, .inl (g.2 3, 10, .inr (.inr (.inr (.inr f30))))), (q34, .inr (8, [.ref q53, .ref q54, .ref q55, .ref q56, .int 0, .int 4, .int 0])), (q53, .inr (5, [.ref q59, .ref q60])), (q63, .inl (g.2 0, 384, .inl f65)), (q59, .inl (g.2 0, 384, .inl f65)), (q60, .inl (g.2 0, 40, .inl f66)), (q43, .inr (9, [.ref q77, .ref q78, .int 1, .int 0])), (q54, .inr (9, [.ref q71, .ref q72, .int 1, .int 0])), (q77, .inl (g.2 0, 10, .inl f65)), (q71, .inl (g.2 0, 10, .inl f65)), (q78, .inl (g.2 0, 10, .inl f79)), (q72, .inl (g.2 0, 10, .inl f79)), (q55, .inl (g.2 0, 60, .inl f65)), (q45, .inl (g.2 0, 20, .inl f80)), (q56, .inl (g.2 0, 20, .inl f80)), (q44, .inl (g.2 0, 60, .inl (upd (upd (upd (upd (upd f65 0 x2) 1 0) 2 x3) 3 x4) 4 x5))), (q32, .inr (8, [.ref q42, .ref q43, .ref q44, .ref q45, .int 1, .int 4, .int 0])), (q64, .inl (g.2 0, 40, .inl (upd (upd (upd (upd (upd (upd (upd (upd (upd f66 1 0) 4 1) 9 1) 14 1) 19 1) 24 1) 29 1) 34 1) 39 1))), (q42, .inr (5, [.ref q63, .ref q64])), (q25, .inr (10, [.ref q29, .int 1, .int 1])), (q1, .inr (11, [.ref q25, w15, w16, w17, w18, w19, w20, w21, .int 0, .int 0, w24]))] := hD
  refine lv_aload hx hb dX9_addClip_85 (lv_at hl 0 rfl) ?_
  refine g_i (wr := [(q29, .inl (g.2 3, 10, .inr (.inr (.inr (.inr f30))))), (q34, .inr (8, [.ref q53, .ref q54, .ref q55, .ref q56, .int 0, .int 4, .int 0])), (q53, .inr (5, [.ref q59, .ref q60])), (q63, .inl (g.2 0, 384, .inl f65)), (q59, .inl (g.2 0, 384, .inl f65)), (q60, .inl (g.2 0, 40, .inl f66)), (q43, .inr (9, [.ref q77, .ref q78, .int 1, .int 0])), (q54, .inr (9, [.ref q71, .ref q72, .int 1, .int 0])), (q77, .inl (g.2 0, 10, .inl f65)), (q71, .inl (g.2 0, 10, .inl f65)), (q78, .inl (g.2 0, 10, .inl f79)), (q72, .inl (g.2 0, 10, .inl f79)), (q55, .inl (g.2 0, 60, .inl f65)), (q45, .inl (g.2 0, 20, .inl f80)), (q56, .inl (g.2 0, 20, .inl f80)), (q44, .inl (g.2 0, 60, .inl (upd (upd (upd (upd (upd f65 0 x2) 1 0) 2 x3) 3 x4) 4 x5))), (q64, .inl (g.2 0, 40, .inl (upd (upd (upd (upd (upd (upd (upd (upd (upd f66 1 0) 4 1) 9 1) 14 1) 19 1) 24 1) 29 1) 34 1) 39 1))), (q42, .inr (5, [.ref q63, .ref q64])), (q25, .inr (10, [.ref q29, .int 1, .int 1])), (q1, .inr (11, [.ref q25, w15, w16, w17, w18, w19, w20, w21, .int 0, .int 0, w24]))]) (rV (rest := []) hx hb hml hown hE hP hD 16 rfl rfl (c1509_X6_clipCount l g q32 (.ref q42) (.ref q43) (.ref q44) (.ref q45) (.int 4) (.int 0) H.size) (kV_X6_clipCount hE (e297 hE) rfl rfl ⟨(Nat.le_of_ble_eq_true rfl), (Nat.le_of_ble_eq_true rfl)⟩) [16] rfl (by decide) rfl hl.1 rfl (lv_room (Nat.le_of_ble_eq_true rfl)) dX9_addClip_87 ⟨(Nat.le_of_ble_eq_true rfl), (Nat.le_of_ble_eq_true rfl)⟩) hP hD hS hA [16] [0, 1, 2, 3, 4, 5, 6, 7, 8, 9, 10, 11, 12, 13, 14, 15, 17, 18, 19, 20] rfl rfl (by decide) (by decide) (fun u10 H locs hP hD hS => ?_)
  have hP : va_P g.1 vwCl [(q29, .inl (g.2 3, 10, .inr (.inr (.inr (.inr f30))))), (q34, .inr (8, [.ref q53, .ref q54, .ref q55, .ref q56, .int 0, .int 4, .int 0])), (q53, .inr (5, [.ref q59, .ref q60])), (q63, .inl (g.2 0, 384, .inl f65)), (q59, .inl (g.2 0, 384, .inl f65)), (q60, .inl (g.2 0, 40, .inl f66)), (q43, .inr (9, [.ref q77, .ref q78, .int 1, .int 0])), (q54, .inr (9, [.ref q71, .ref q72, .int 1, .int 0])), (q77, .inl (g.2 0, 10, .inl f65)), (q71, .inl (g.2 0, 10, .inl f65)), (q78, .inl (g.2 0, 10, .inl f79)), (q72, .inl (g.2 0, 10, .inl f79)), (q55, .inl (g.2 0, 60, .inl f65)), (q45, .inl (g.2 0, 20, .inl f80)), (q56, .inl (g.2 0, 20, .inl f80)), (q44, .inl (g.2 0, 60, .inl (upd (upd (upd (upd (upd f65 0 x2) 1 0) 2 x3) 3 x4) 4 x5))), (q64, .inl (g.2 0, 40, .inl (upd (upd (upd (upd (upd (upd (upd (upd (upd f66 1 0) 4 1) 9 1) 14 1) 19 1) 24 1) 29 1) 34 1) 39 1))), (q42, .inr (5, [.ref q63, .ref q64])), (q25, .inr (10, [.ref q29, .int 1, .int 1])), (q1, .inr (11, [.ref q25, w15, w16, w17, w18, w19, w20, w21, .int 0, .int 0, w24])), (q32, .inr (8, [.ref q42, .ref q43, .ref q44, .ref q45, .int 1, .int 4, .int 0]))] H := hP
  have hD : va_D A [(q29, .inl (g.2 3, 10, .inr (.inr (.inr (.inr f30))))), (q34, .inr (8, [.ref q53, .ref q54, .ref q55, .ref q56, .int 0, .int 4, .int 0])), (q53, .inr (5, [.ref q59, .ref q60])), (q63, .inl (g.2 0, 384, .inl f65)), (q59, .inl (g.2 0, 384, .inl f65)), (q60, .inl (g.2 0, 40, .inl f66)), (q43, .inr (9, [.ref q77, .ref q78, .int 1, .int 0])), (q54, .inr (9, [.ref q71, .ref q72, .int 1, .int 0])), (q77, .inl (g.2 0, 10, .inl f65)), (q71, .inl (g.2 0, 10, .inl f65)), (q78, .inl (g.2 0, 10, .inl f79)), (q72, .inl (g.2 0, 10, .inl f79)), (q55, .inl (g.2 0, 60, .inl f65)), (q45, .inl (g.2 0, 20, .inl f80)), (q56, .inl (g.2 0, 20, .inl f80)), (q44, .inl (g.2 0, 60, .inl (upd (upd (upd (upd (upd f65 0 x2) 1 0) 2 x3) 3 x4) 4 x5))), (q64, .inl (g.2 0, 40, .inl (upd (upd (upd (upd (upd (upd (upd (upd (upd f66 1 0) 4 1) 9 1) 14 1) 19 1) 24 1) 29 1) 34 1) 39 1))), (q42, .inr (5, [.ref q63, .ref q64])), (q25, .inr (10, [.ref q29, .int 1, .int 1])), (q1, .inr (11, [.ref q25, w15, w16, w17, w18, w19, w20, w21, .int 0, .int 0, w24])), (q32, .inr (8, [.ref q42, .ref q43, .ref q44, .ref q45, .int 1, .int 4, .int 0]))] := hD
  refine lv_iconst (v := 1) hx hb dX9_addClip_90 (by decide) ?_
  refine x_isub (v := 0) hx hb dX9_addClip_91 (by decide) ?_
  exact x_zret hx hb hr rfl rfl hlocks hP hD hS hAe hsz (Nat.le_of_ble_eq_true rfl) (Nat.le_of_ble_eq_true rfl) (fun _ => 0) [0, 1, 2, 3, 4, 5, 6, 7, 8, 9, 10, 11, 12, 13, 14, 15, 16, 17, 18, 19, 20] (by decide) rfl dX9_addClip_92

set_option maxHeartbeats 4000000 in
set_option maxRecDepth 100000 in
theorem c1511_L_addClip (l : Launch) (g : gG) (hlx : l.stackTraces = false) (q1 q6 q26 q30 q33 q35 q43 q44 q45 q46 q54 q55 q56 q57 q60 q61 q64 q65 q72 q73 q78 q79 : Nat) (x2 x3 x4 x5 : Int32) (w16 w17 w18 w19 w20 w21 w22 w23 w24 w25 w40 w41 w42 w76 w77 : Value) (f31 : Nat → Option Nat) (f66 : Nat → Int32) (f67 : Nat → Int32) (f80 : Nat → Int32) (f81 : Nat → Int32) (f113 : Nat → Int64) (hf32 : f31 1 = some q33) (hf34 : f31 0 = some q35) (hf82 : f67 0 = 0) (hf83 : f67 2 = 0) (hf84 : f67 3 = 0) (hf85 : f67 5 = 0) (hf86 : f67 6 = 0) (hf87 : f67 7 = 0) (hf88 : f67 8 = 0) (hf89 : f67 10 = 0) (hf90 : f67 11 = 0) (hf91 : f67 12 = 0) (hf92 : f67 13 = 0) (hf93 : f67 15 = 0) (hf94 : f67 16 = 0) (hf95 : f67 17 = 0) (hf96 : f67 18 = 0) (hf97 : f67 20 = 0) (hf98 : f67 21 = 0) (hf99 : f67 22 = 0) (hf100 : f67 23 = 0) (hf101 : f67 25 = 0) (hf102 : f67 26 = 0) (hf103 : f67 27 = 0) (hf104 : f67 28 = 0) (hf105 : f67 30 = 0) (hf106 : f67 31 = 0) (hf107 : f67 32 = 0) (hf108 : f67 33 = 0) (hf109 : f67 35 = 0) (hf110 : f67 36 = 0) (hf111 : f67 37 = 0) (hf112 : f67 38 = 0) (h7 : (0 : Int32) ≤ x2) (h8 : x2 ≤ 9999) (h9 : (1 : Int32) ≤ x3) (h10 : x3 ≤ 9) (h11 : ((-50) : Int32) ≤ x4) (h12 : x4 ≤ 50) (h13 : (0 : Int32) ≤ x5) (h14 : x5 ≤ 3) (sz : Nat) : Met l yL_addClip [Cond.codeWith yL_addClip cL_addClip 8 (some .int) [(0, 16, 19, 15), (0, 16, 23, 17)]] ({ frames := 6, cells := 0, slots := 0, locals := 174 } : Room) (va_Pc [.ref q1, .int x2, .int 0, .int x3, .int x4, .int x5, .ref q6] (PZ g sz [(q6, .inl (g.2 1, 1, .inr (.inl f113))), (q46, .inl (g.2 0, 20, .inl f81)), (q57, .inl (g.2 0, 20, .inl f81)), (q45, .inl (g.2 0, 60, .inl f66)), (q56, .inl (g.2 0, 60, .inl f66)), (q79, .inl (g.2 0, 10, .inl f80)), (q73, .inl (g.2 0, 10, .inl f80)), (q78, .inl (g.2 0, 10, .inl f66)), (q72, .inl (g.2 0, 10, .inl f66)), (q44, .inr (9, [.ref q78, .ref q79, w76, w77])), (q55, .inr (9, [.ref q72, .ref q73, .int 1, .int 0])), (q65, .inl (g.2 0, 40, .inl f67)), (q61, .inl (g.2 0, 40, .inl f67)), (q64, .inl (g.2 0, 384, .inl f66)), (q60, .inl (g.2 0, 384, .inl f66)), (q43, .inr (5, [.ref q64, .ref q65])), (q54, .inr (5, [.ref q60, .ref q61])), (q35, .inr (8, [.ref q54, .ref q55, .ref q56, .ref q57, .int 0, .int 4, .int 0])), (q33, .inr (8, [.ref q43, .ref q44, .ref q45, .ref q46, w40, w41, w42])), (q30, .inl (g.2 3, 10, .inr (.inr (.inr (.inr f31))))), (q26, .inr (10, [.ref q30, .int 0, .int 0])), (q1, .inr (11, [.ref q26, w16, w17, w18, w19, w20, w21, w22, w23, w24, w25]))])) (QI g [(q6, .inl (g.2 1, 1, .inr (.inl f113))), (q46, .inl (g.2 0, 20, .inl f81)), (q57, .inl (g.2 0, 20, .inl f81)), (q45, .inl (g.2 0, 60, .inl f66)), (q56, .inl (g.2 0, 60, .inl f66)), (q79, .inl (g.2 0, 10, .inl f80)), (q73, .inl (g.2 0, 10, .inl f80)), (q78, .inl (g.2 0, 10, .inl f66)), (q72, .inl (g.2 0, 10, .inl f66)), (q44, .inr (9, [.ref q78, .ref q79, w76, w77])), (q55, .inr (9, [.ref q72, .ref q73, .int 1, .int 0])), (q65, .inl (g.2 0, 40, .inl f67)), (q61, .inl (g.2 0, 40, .inl f67)), (q64, .inl (g.2 0, 384, .inl f66)), (q60, .inl (g.2 0, 384, .inl f66)), (q43, .inr (5, [.ref q64, .ref q65])), (q54, .inr (5, [.ref q60, .ref q61])), (q35, .inr (8, [.ref q54, .ref q55, .ref q56, .ref q57, .int 0, .int 4, .int 0])), (q33, .inr (8, [.ref q43, .ref q44, .ref q45, .ref q46, w40, w41, w42])), (q30, .inl (g.2 3, 10, .inr (.inr (.inr (.inr f31))))), (q26, .inr (10, [.ref q30, .int 0, .int 0])), (q1, .inr (11, [.ref q26, w16, w17, w18, w19, w20, w21, w22, w23, w24, w25]))] sz 0 (fun _ => [(q6, .inl (g.2 1, 1, .inr (.inl (vp_updL f113 0 0))))])) 0 0 (va_A [(q6, .inl (g.2 1, 1, .inr (.inl f113))), (q46, .inl (g.2 0, 20, .inl f81)), (q57, .inl (g.2 0, 20, .inl f81)), (q45, .inl (g.2 0, 60, .inl f66)), (q56, .inl (g.2 0, 60, .inl f66)), (q79, .inl (g.2 0, 10, .inl f80)), (q73, .inl (g.2 0, 10, .inl f80)), (q78, .inl (g.2 0, 10, .inl f66)), (q72, .inl (g.2 0, 10, .inl f66)), (q44, .inr (9, [.ref q78, .ref q79, w76, w77])), (q55, .inr (9, [.ref q72, .ref q73, .int 1, .int 0])), (q65, .inl (g.2 0, 40, .inl f67)), (q61, .inl (g.2 0, 40, .inl f67)), (q64, .inl (g.2 0, 384, .inl f66)), (q60, .inl (g.2 0, 384, .inl f66)), (q43, .inr (5, [.ref q64, .ref q65])), (q54, .inr (5, [.ref q60, .ref q61])), (q35, .inr (8, [.ref q54, .ref q55, .ref q56, .ref q57, .int 0, .int 4, .int 0])), (q33, .inr (8, [.ref q43, .ref q44, .ref q45, .ref q46, w40, w41, w42])), (q30, .inl (g.2 3, 10, .inr (.inr (.inr (.inr f31))))), (q26, .inr (10, [.ref q30, .int 0, .int 0])), (q1, .inr (11, [.ref q26, w16, w17, w18, w19, w20, w21, w22, w23, w24, w25]))] sz) := by
  refine ofH (by decide) (Nat.le_of_ble_eq_true rfl) rfl ?_
  intro p e s m args below meth c A ls hAe hsz hx hb hml hr hlocks hin hown hE hP hD hA hS hl htb hz
  have hown : s.vm.findClass RL = some m.cls := hown
  refine lv_aload hx hb dL_addClip_0 (lv_at hl 6 rfl) ?_
  refine lv_iconst (v := 0) hx hb dL_addClip_2 (by decide) ?_
  refine lv_aload_n hx hb dL_addClip_3 rfl (lv_at hl 0 rfl) ?_
  refine lv_iload_n hx hb dL_addClip_4 rfl (lv_at hl 1 rfl) ?_
  refine lv_iload_n hx hb dL_addClip_5 rfl (lv_at hl 2 rfl) ?_
  refine lv_iload_n hx hb dL_addClip_6 rfl (lv_at hl 3 rfl) ?_
  refine lv_iload hx hb dL_addClip_7 (lv_at hl 4 rfl) ?_
  refine lv_iload hx hb dL_addClip_9 (lv_at hl 5 rfl) ?_
  refine g_i (wr := [(q6, .inl (g.2 1, 1, .inr (.inl f113)))]) (rV (rest := [.int 0, .ref q6]) hx hb hml hown hE hP hD 21 rfl rfl (c1510_X9_addClip l g q1 q26 q30 q33 q35 q43 q44 q45 q46 q54 q55 q56 q57 q60 q61 q64 q65 q72 q73 q78 q79 x2 x3 x4 x5 w16 w17 w18 w19 w20 w21 w22 w23 w24 w25 w40 w41 w42 w76 w77 f31 f66 f67 f80 f81 (hf32) (hf34) (hf82) (hf83) (hf84) (hf85) (hf86) (hf87) (hf88) (hf89) (hf90) (hf91) (hf92) (hf93) (hf94) (hf95) (hf96) (hf97) (hf98) (hf99) (hf100) (hf101) (hf102) (hf103) (hf104) (hf105) (hf106) (hf107) (hf108) (hf109) (hf110) (hf111) (hf112) h7 h8 h9 h10 h11 h12 h13 h14 s.heap.size) (kV_X9_addClip hE (e803 hE) rfl rfl ⟨(Nat.le_of_ble_eq_true rfl), (Nat.le_of_ble_eq_true rfl)⟩) [1, 2, 3, 4, 5, 6, 7, 8, 9, 10, 11, 12, 13, 14, 15, 16, 17, 18, 19, 20, 21] rfl (by decide) rfl hl.1 rfl (lv_room (Nat.le_of_ble_eq_true rfl)) dL_addClip_11 ⟨(Nat.le_of_ble_eq_true rfl), (Nat.le_of_ble_eq_true rfl)⟩) hP hD hS hA [1, 2, 3, 4, 5, 6, 7, 8, 9, 10, 11, 12, 13, 14, 15, 16, 17, 18, 19, 20, 21] [0] rfl rfl (by decide) (by decide) (fun u1 H locs hP hD hS => ?_)
  have hP : va_P g.1 vwCl [(q6, .inl (g.2 1, 1, .inr (.inl f113))), (q30, .inl (g.2 3, 10, .inr (.inr (.inr (.inr f31))))), (q35, .inr (8, [.ref q54, .ref q55, .ref q56, .ref q57, .int 0, .int 4, .int 0])), (q54, .inr (5, [.ref q60, .ref q61])), (q64, .inl (g.2 0, 384, .inl f66)), (q60, .inl (g.2 0, 384, .inl f66)), (q61, .inl (g.2 0, 40, .inl f67)), (q44, .inr (9, [.ref q78, .ref q79, .int 1, .int 0])), (q55, .inr (9, [.ref q72, .ref q73, .int 1, .int 0])), (q78, .inl (g.2 0, 10, .inl f66)), (q72, .inl (g.2 0, 10, .inl f66)), (q79, .inl (g.2 0, 10, .inl f80)), (q73, .inl (g.2 0, 10, .inl f80)), (q56, .inl (g.2 0, 60, .inl f66)), (q46, .inl (g.2 0, 20, .inl f81)), (q57, .inl (g.2 0, 20, .inl f81)), (q45, .inl (g.2 0, 60, .inl (upd (upd (upd (upd (upd f66 0 x2) 1 0) 2 x3) 3 x4) 4 x5))), (q65, .inl (g.2 0, 40, .inl (upd (upd (upd (upd (upd (upd (upd (upd (upd f67 1 0) 4 1) 9 1) 14 1) 19 1) 24 1) 29 1) 34 1) 39 1))), (q43, .inr (5, [.ref q64, .ref q65])), (q26, .inr (10, [.ref q30, .int 1, .int 1])), (q1, .inr (11, [.ref q26, w16, w17, w18, w19, w20, w21, w22, .int 0, .int 0, w25])), (q33, .inr (8, [.ref q43, .ref q44, .ref q45, .ref q46, .int 1, .int 4, .int 0]))] H := hP
  have hD : va_D A [(q6, .inl (g.2 1, 1, .inr (.inl f113))), (q30, .inl (g.2 3, 10, .inr (.inr (.inr (.inr f31))))), (q35, .inr (8, [.ref q54, .ref q55, .ref q56, .ref q57, .int 0, .int 4, .int 0])), (q54, .inr (5, [.ref q60, .ref q61])), (q64, .inl (g.2 0, 384, .inl f66)), (q60, .inl (g.2 0, 384, .inl f66)), (q61, .inl (g.2 0, 40, .inl f67)), (q44, .inr (9, [.ref q78, .ref q79, .int 1, .int 0])), (q55, .inr (9, [.ref q72, .ref q73, .int 1, .int 0])), (q78, .inl (g.2 0, 10, .inl f66)), (q72, .inl (g.2 0, 10, .inl f66)), (q79, .inl (g.2 0, 10, .inl f80)), (q73, .inl (g.2 0, 10, .inl f80)), (q56, .inl (g.2 0, 60, .inl f66)), (q46, .inl (g.2 0, 20, .inl f81)), (q57, .inl (g.2 0, 20, .inl f81)), (q45, .inl (g.2 0, 60, .inl (upd (upd (upd (upd (upd f66 0 x2) 1 0) 2 x3) 3 x4) 4 x5))), (q65, .inl (g.2 0, 40, .inl (upd (upd (upd (upd (upd (upd (upd (upd (upd f67 1 0) 4 1) 9 1) 14 1) 19 1) 24 1) 29 1) 34 1) 39 1))), (q43, .inr (5, [.ref q64, .ref q65])), (q26, .inr (10, [.ref q30, .int 1, .int 1])), (q1, .inr (11, [.ref q26, w16, w17, w18, w19, w20, w21, w22, .int 0, .int 0, w25])), (q33, .inr (8, [.ref q43, .ref q44, .ref q45, .ref q46, .int 1, .int 4, .int 0]))] := hD
  refine lv_i2l (v := 0) hx hb dL_addClip_14 (by decide) ?_
  refine x_last (ws' := [(q6, .inl (g.2 1, 1, .inr (.inl (vp_updL f113 0 0)))), (q30, .inl (g.2 3, 10, .inr (.inr (.inr (.inr f31))))), (q35, .inr (8, [.ref q54, .ref q55, .ref q56, .ref q57, .int 0, .int 4, .int 0])), (q54, .inr (5, [.ref q60, .ref q61])), (q64, .inl (g.2 0, 384, .inl f66)), (q60, .inl (g.2 0, 384, .inl f66)), (q61, .inl (g.2 0, 40, .inl f67)), (q44, .inr (9, [.ref q78, .ref q79, .int 1, .int 0])), (q55, .inr (9, [.ref q72, .ref q73, .int 1, .int 0])), (q78, .inl (g.2 0, 10, .inl f66)), (q72, .inl (g.2 0, 10, .inl f66)), (q79, .inl (g.2 0, 10, .inl f80)), (q73, .inl (g.2 0, 10, .inl f80)), (q56, .inl (g.2 0, 60, .inl f66)), (q46, .inl (g.2 0, 20, .inl f81)), (q57, .inl (g.2 0, 20, .inl f81)), (q45, .inl (g.2 0, 60, .inl (upd (upd (upd (upd (upd f66 0 x2) 1 0) 2 x3) 3 x4) 4 x5))), (q65, .inl (g.2 0, 40, .inl (upd (upd (upd (upd (upd (upd (upd (upd (upd f67 1 0) 4 1) 9 1) 14 1) 19 1) 24 1) 29 1) 34 1) 39 1))), (q43, .inr (5, [.ref q64, .ref q65])), (q26, .inr (10, [.ref q30, .int 1, .int 1])), (q1, .inr (11, [.ref q26, w16, w17, w18, w19, w20, w21, w22, .int 0, .int 0, w25])), (q33, .inr (8, [.ref q43, .ref q44, .ref q45, .ref q46, .int 1, .int 4, .int 0]))]) hx hb hE hP hD hS 0 rfl 0 (x_in (by decide)) (by decide) dL_addClip_15 rfl (fun H locs hP hD hS => ?_)
  refine lv_goto (tgt := 27) hx hb dL_addClip_16 (by decide) ?_
  refine lv_iconst (v := 0) hx hb dL_addClip_27 (by decide) ?_
  exact x_zret hx hb hr rfl rfl hlocks hP hD hS hAe hsz (Nat.le_of_ble_eq_true rfl) (Nat.le_of_ble_eq_true rfl) (fun _ => 0) [0] (by decide) rfl dL_addClip_28

set_option maxHeartbeats 4000000 in
set_option maxRecDepth 100000 in
theorem c1512_X10_ofClip (l : Launch) (g : gG) (q1 q39 : Nat) (x42 : Int32) (w3 w4 w5 w6 w7 w8 w9 w10 w11 w12 w13 w14 w15 w16 w17 w18 w19 w20 w21 w22 w23 w24 w25 w26 w27 w28 w29 w30 w31 w32 w33 w34 w35 w36 w37 w38 : Value) (f40 : Nat → Int32) (hf41 : f40 395 = x42) (sz : Nat) : Met l yX10_ofClip [Cond.code yX10_ofClip cX10_ofClip 3 (some .int)] ({ frames := 0, cells := 0, slots := 0, locals := 0 } : Room) (va_Pc [.ref q1, .int 0, .int 2] (PX g sz [(q39, .inl (g.2 0, 497, .inl f40)), (q1, .inr (12, [.ref q39, w3, w4, w5, w6, w7, w8, w9, w10, w11, w12, w13, w14, w15, w16, w17, w18, w19, w20, w21, w22, w23, w24, w25, w26, w27, w28, w29, w30, w31, w32, w33, w34, w35, w36, w37, w38]))])) (QI g [(q39, .inl (g.2 0, 497, .inl f40)), (q1, .inr (12, [.ref q39, w3, w4, w5, w6, w7, w8, w9, w10, w11, w12, w13, w14, w15, w16, w17, w18, w19, w20, w21, w22, w23, w24, w25, w26, w27, w28, w29, w30, w31, w32, w33, w34, w35, w36, w37, w38]))] sz x42 (fun _ => [(q39, .inl (g.2 0, 497, .inl f40)), (q1, .inr (12, [.ref q39, w3, w4, w5, w6, w7, w8, w9, w10, w11, w12, w13, w14, w15, w16, w17, w18, w19, w20, w21, w22, w23, w24, w25, w26, w27, w28, w29, w30, w31, w32, w33, w34, w35, w36, w37, w38]))])) 0 0 (va_A [(q39, .inl (g.2 0, 497, .inl f40)), (q1, .inr (12, [.ref q39, w3, w4, w5, w6, w7, w8, w9, w10, w11, w12, w13, w14, w15, w16, w17, w18, w19, w20, w21, w22, w23, w24, w25, w26, w27, w28, w29, w30, w31, w32, w33, w34, w35, w36, w37, w38]))] sz) := by
  refine ofN (by decide) (Nat.le_of_ble_eq_true rfl) rfl ?_
  intro p e s m args below meth c A ls hAe hsz hx hb hml hr hlocks hin hown hE hP hD hA hS hl
  have hown : s.vm.findClass RX10 = some m.cls := hown
  refine lv_aload_n hx hb dX10_ofClip_0 rfl (lv_at hl 0 rfl) ?_
  refine gf_RX10_9 hx hb hown hE hP 1 rfl rfl dX10_ofClip_1 ?_
  refine lv_sipush (v := 393) hx hb dX10_ofClip_4 (by decide) ?_
  refine lv_iconst (v := 5) hx hb dX10_ofClip_7 (by decide) ?_
  refine lv_iload_n hx hb dX10_ofClip_8 rfl (lv_at hl 1 rfl) ?_
  refine x_imul (v := 0) hx hb dX10_ofClip_9 (by decide) ?_
  refine x_iadd (v := 393) hx hb dX10_ofClip_10 (by decide) ?_
  refine lv_iload_n hx hb dX10_ofClip_11 rfl (lv_at hl 2 rfl) ?_
  refine x_iadd (v := 395) hx hb dX10_ofClip_12 (by decide) ?_
  refine x_iald (v := x42) hx hb hE hP 0 rfl 395 (x_in (by decide)) (by decide) hf41 dX10_ofClip_13 ?_
  exact x_zret hx hb hr rfl rfl hlocks hP hD hS hAe hsz (Nat.le_of_ble_eq_true rfl) (Nat.le_of_ble_eq_true rfl) (fun _ => 0) [0, 1] (by decide) rfl dX10_ofClip_14

set_option maxHeartbeats 4000000 in
set_option maxRecDepth 100000 in
theorem c1513_X10_ofClip (l : Launch) (g : gG) (q1 q39 : Nat) (w3 w4 w5 w6 w7 w8 w9 w10 w11 w12 w13 w14 w15 w16 w17 w18 w19 w20 w21 w22 w23 w24 w25 w26 w27 w28 w29 w30 w31 w32 w33 w34 w35 w36 w37 w38 : Value) (f40 : Nat → Int32) (hf41 : f40 394 = 0) (sz : Nat) : Met l yX10_ofClip [Cond.code yX10_ofClip cX10_ofClip 3 (some .int)] ({ frames := 0, cells := 0, slots := 0, locals := 0 } : Room) (va_Pc [.ref q1, .int 0, .int 1] (PX g sz [(q39, .inl (g.2 0, 497, .inl f40)), (q1, .inr (12, [.ref q39, w3, w4, w5, w6, w7, w8, w9, w10, w11, w12, w13, w14, w15, w16, w17, w18, w19, w20, w21, w22, w23, w24, w25, w26, w27, w28, w29, w30, w31, w32, w33, w34, w35, w36, w37, w38]))])) (QI g [(q39, .inl (g.2 0, 497, .inl f40)), (q1, .inr (12, [.ref q39, w3, w4, w5, w6, w7, w8, w9, w10, w11, w12, w13, w14, w15, w16, w17, w18, w19, w20, w21, w22, w23, w24, w25, w26, w27, w28, w29, w30, w31, w32, w33, w34, w35, w36, w37, w38]))] sz 0 (fun _ => [(q39, .inl (g.2 0, 497, .inl f40)), (q1, .inr (12, [.ref q39, w3, w4, w5, w6, w7, w8, w9, w10, w11, w12, w13, w14, w15, w16, w17, w18, w19, w20, w21, w22, w23, w24, w25, w26, w27, w28, w29, w30, w31, w32, w33, w34, w35, w36, w37, w38]))])) 0 0 (va_A [(q39, .inl (g.2 0, 497, .inl f40)), (q1, .inr (12, [.ref q39, w3, w4, w5, w6, w7, w8, w9, w10, w11, w12, w13, w14, w15, w16, w17, w18, w19, w20, w21, w22, w23, w24, w25, w26, w27, w28, w29, w30, w31, w32, w33, w34, w35, w36, w37, w38]))] sz) := by
  refine ofN (by decide) (Nat.le_of_ble_eq_true rfl) rfl ?_
  intro p e s m args below meth c A ls hAe hsz hx hb hml hr hlocks hin hown hE hP hD hA hS hl
  have hown : s.vm.findClass RX10 = some m.cls := hown
  refine lv_aload_n hx hb dX10_ofClip_0 rfl (lv_at hl 0 rfl) ?_
  refine gf_RX10_9 hx hb hown hE hP 1 rfl rfl dX10_ofClip_1 ?_
  refine lv_sipush (v := 393) hx hb dX10_ofClip_4 (by decide) ?_
  refine lv_iconst (v := 5) hx hb dX10_ofClip_7 (by decide) ?_
  refine lv_iload_n hx hb dX10_ofClip_8 rfl (lv_at hl 1 rfl) ?_
  refine x_imul (v := 0) hx hb dX10_ofClip_9 (by decide) ?_
  refine x_iadd (v := 393) hx hb dX10_ofClip_10 (by decide) ?_
  refine lv_iload_n hx hb dX10_ofClip_11 rfl (lv_at hl 2 rfl) ?_
  refine x_iadd (v := 394) hx hb dX10_ofClip_12 (by decide) ?_
  refine x_iald (v := 0) hx hb hE hP 0 rfl 394 (x_in (by decide)) (by decide) hf41 dX10_ofClip_13 ?_
  exact x_zret hx hb hr rfl rfl hlocks hP hD hS hAe hsz (Nat.le_of_ble_eq_true rfl) (Nat.le_of_ble_eq_true rfl) (fun _ => 0) [0, 1] (by decide) rfl dX10_ofClip_14

set_option maxHeartbeats 4000000 in
set_option maxRecDepth 100000 in
theorem c1514_X10_isTooGreat (l : Launch) (g : gG) (q1 q39 q40 q41 : Nat) (x62 : Int32) (w3 w4 w5 w6 w7 w8 w11 w12 w13 w14 w15 w16 w17 w18 w19 w20 w21 w22 w23 w24 w25 w26 w27 w28 w29 w30 w31 w32 w33 w34 w35 w36 w37 w38 : Value) (f42 : Nat → Int32) (f51 : Nat → Int32) (hf43 : f42 0 = 0) (hf44 : f42 49 = 0) (hf45 : f42 98 = 0) (hf46 : f42 147 = 0) (hf47 : f42 196 = 0) (hf48 : f42 245 = 0) (hf49 : f42 294 = 0) (hf50 : f42 343 = 0) (hf52 : f51 0 = 0) (hf53 : f51 1 = 0) (hf54 : f51 2 = 0) (hf55 : f51 3 = 0) (hf56 : f51 4 = 0) (hf57 : f51 5 = 0) (hf58 : f51 6 = 0) (hf59 : f51 7 = 0) (hf60 : f42 392 = 1) (hf61 : f42 395 = x62) (hf63 : f42 394 = 0) (sz : Nat) : Met l yX10_isTooGreat [Cond.code yX10_isTooGreat cX10_isTooGreat 4 (some .boolean)] ({ frames := 3, cells := 0, slots := 0, locals := 66 } : Room) (va_Pc [.ref q1] (PX g sz [(q41, .inl (g.2 0, 8, .inl f51)), (q40, .inl (g.2 0, 8, .inl f51)), (q39, .inl (g.2 0, 497, .inl f42)), (q1, .inr (12, [.ref q39, w3, w4, w5, w6, w7, w8, .ref q40, .ref q41, w11, w12, w13, w14, w15, w16, w17, w18, w19, w20, w21, w22, w23, w24, w25, w26, w27, w28, w29, w30, w31, w32, w33, w34, w35, w36, w37, w38]))])) (QI g [(q41, .inl (g.2 0, 8, .inl f51)), (q40, .inl (g.2 0, 8, .inl f51)), (q39, .inl (g.2 0, 497, .inl f42)), (q1, .inr (12, [.ref q39, w3, w4, w5, w6, w7, w8, .ref q40, .ref q41, w11, w12, w13, w14, w15, w16, w17, w18, w19, w20, w21, w22, w23, w24, w25, w26, w27, w28, w29, w30, w31, w32, w33, w34, w35, w36, w37, w38]))] sz 0 (fun _ => [(q41, .inl (g.2 0, 8, .inl f51)), (q40, .inl (g.2 0, 8, .inl f51)), (q39, .inl (g.2 0, 497, .inl f42)), (q1, .inr (12, [.ref q39, w3, w4, w5, w6, w7, w8, .ref q40, .ref q41, w11, w12, w13, w14, w15, w16, w17, w18, w19, w20, w21, w22, w23, w24, w25, w26, w27, w28, w29, w30, w31, w32, w33, w34, w35, w36, w37, w38]))])) 0 0 (va_A [(q41, .inl (g.2 0, 8, .inl f51)), (q40, .inl (g.2 0, 8, .inl f51)), (q39, .inl (g.2 0, 497, .inl f42)), (q1, .inr (12, [.ref q39, w3, w4, w5, w6, w7, w8, .ref q40, .ref q41, w11, w12, w13, w14, w15, w16, w17, w18, w19, w20, w21, w22, w23, w24, w25, w26, w27, w28, w29, w30, w31, w32, w33, w34, w35, w36, w37, w38]))] sz) := by
  refine ofN (by decide) (Nat.le_of_ble_eq_true rfl) rfl ?_
  intro p e s m args below meth c A ls hAe hsz hx hb hml hr hlocks hin hown hE hP hD hA hS hl
  have hown : s.vm.findClass RX10 = some m.cls := hown
  refine lv_aload_n hx hb dX10_isTooGreat_0 rfl (lv_at hl 0 rfl) ?_
  refine g_v (wr := []) (rV (rest := []) hx hb hml hown hE hP hD 3 rfl rfl (c1241_X10_layLengths l g q1 q39 q40 q41 w3 w4 w5 w6 w7 w8 w11 w12 w13 w14 w15 w16 w17 w18 w19 w20 w21 w22 w23 w24 w25 w26 w27 w28 w29 w30 w31 w32 w33 w34 w35 w36 w37 w38 f42 f51 (hf43) (hf52) (hf44) (hf53) (hf45) (hf54) (hf46) (hf55) (hf47) (hf56) (hf48) (hf57) (hf49) (hf58) (hf50) (hf59) s.heap.size) (kV_X10_layLengths hE (e1452 hE) rfl rfl ⟨(Nat.le_of_ble_eq_true rfl), (Nat.le_of_ble_eq_true rfl)⟩) [0, 1, 2, 3] rfl (by decide) rfl hl.1 rfl (lv_room (Nat.le_of_ble_eq_true rfl)) dX10_isTooGreat_1 ⟨(Nat.le_of_ble_eq_true rfl), (Nat.le_of_ble_eq_true rfl)⟩) hP hD hS hA [0, 1, 2, 3] [] rfl rfl (by decide) (by decide) (fun u1 H locs hP hD hS => ?_)
  have hP : va_P g.1 vwCl [(q41, .inl (g.2 0, 8, .inl f51)), (q40, .inl (g.2 0, 8, .inl f51)), (q39, .inl (g.2 0, 497, .inl f42)), (q1, .inr (12, [.ref q39, w3, w4, w5, w6, w7, w8, .ref q40, .ref q41, w11, w12, w13, w14, w15, w16, w17, w18, w19, w20, w21, w22, w23, w24, w25, w26, w27, w28, w29, w30, w31, w32, w33, w34, w35, w36, w37, w38]))] H := hP
  have hD : va_D A [(q41, .inl (g.2 0, 8, .inl f51)), (q40, .inl (g.2 0, 8, .inl f51)), (q39, .inl (g.2 0, 497, .inl f42)), (q1, .inr (12, [.ref q39, w3, w4, w5, w6, w7, w8, .ref q40, .ref q41, w11, w12, w13, w14, w15, w16, w17, w18, w19, w20, w21, w22, w23, w24, w25, w26, w27, w28, w29, w30, w31, w32, w33, w34, w35, w36, w37, w38]))] := hD
  refine lv_iconst (v := 0) hx hb dX10_isTooGreat_4 (by decide) ?_
  refine lv_istore_n (lv' := [(1, .int 0), (0, .ref q1)]) hx hb dX10_isTooGreat_5 rfl hl (by decide) rfl (fun ls hl => ?_)
  refine lv_iconst (v := 0) hx hb dX10_isTooGreat_6 (by decide) ?_
  refine lv_istore_n (lv' := [(2, .int 0), (1, .int 0), (0, .ref q1)]) hx hb dX10_isTooGreat_7 rfl hl (by decide) rfl (fun ls hl => ?_)
  refine lv_iload_n hx hb dX10_isTooGreat_8 rfl (lv_at hl 0 rfl) ?_
  refine lv_bipush (v := 8) hx hb dX10_isTooGreat_9 (by decide) ?_
  refine lv_icmp_ge (tgt := 40) hx hb dX10_isTooGreat_11 (by decide) (fun h => absurd h (by decide)) (fun _ => ?_)
  refine lv_iload_n hx hb dX10_isTooGreat_14 rfl (lv_at hl 1 rfl) ?_
  refine lv_aload_n hx hb dX10_isTooGreat_15 rfl (lv_at hl 2 rfl) ?_
  refine gf_RX10_22 hx hb hown hE hP 3 rfl rfl dX10_isTooGreat_16 ?_
  refine lv_iload_n hx hb dX10_isTooGreat_19 rfl (lv_at hl 0 rfl) ?_
  refine x_iald (v := 0) hx hb hE hP 1 rfl 0 (x_in (by decide)) (by decide) hf52 dX10_isTooGreat_20 ?_
  refine lv_sipush (v := 20000) hx hb dX10_isTooGreat_21 (by decide) ?_
  refine lv_icmp_le (tgt := 31) hx hb dX10_isTooGreat_24 (by decide) (fun _ => ?_) (fun h => absurd (by decide) h)
  refine lv_iconst (v := 0) hx hb dX10_isTooGreat_31 (by decide) ?_
  refine x_ior (v := 0) hx hb dX10_isTooGreat_32 (by decide) ?_
  refine lv_istore_n (lv' := [(1, .int 0), (2, .int 0), (0, .ref q1)]) hx hb dX10_isTooGreat_33 rfl hl (by decide) rfl (fun ls hl => ?_)
  refine lv_iinc (v := 1) (lv' := [(2, .int 1), (1, .int 0), (0, .ref q1)]) hx hb dX10_isTooGreat_34 hl (k := 1) rfl (by decide) (by decide) rfl (fun ls hl => ?_)
  refine lv_goto (tgt := 8) hx hb dX10_isTooGreat_37 (by decide) ?_
  refine lv_iload_n hx hb dX10_isTooGreat_8 rfl (lv_at hl 0 rfl) ?_
  refine lv_bipush (v := 8) hx hb dX10_isTooGreat_9 (by decide) ?_
  refine lv_icmp_ge (tgt := 40) hx hb dX10_isTooGreat_11 (by decide) (fun h => absurd h (by decide)) (fun _ => ?_)
  refine lv_iload_n hx hb dX10_isTooGreat_14 rfl (lv_at hl 1 rfl) ?_
  refine lv_aload_n hx hb dX10_isTooGreat_15 rfl (lv_at hl 2 rfl) ?_
  refine gf_RX10_22 hx hb hown hE hP 3 rfl rfl dX10_isTooGreat_16 ?_
  refine lv_iload_n hx hb dX10_isTooGreat_19 rfl (lv_at hl 0 rfl) ?_
  refine x_iald (v := 0) hx hb hE hP 1 rfl 1 (x_in (by decide)) (by decide) hf53 dX10_isTooGreat_20 ?_
  refine lv_sipush (v := 20000) hx hb dX10_isTooGreat_21 (by decide) ?_
  refine lv_icmp_le (tgt := 31) hx hb dX10_isTooGreat_24 (by decide) (fun _ => ?_) (fun h => absurd (by decide) h)
  refine lv_iconst (v := 0) hx hb dX10_isTooGreat_31 (by decide) ?_
  refine x_ior (v := 0) hx hb dX10_isTooGreat_32 (by decide) ?_
  refine lv_istore_n (lv' := [(1, .int 0), (2, .int 1), (0, .ref q1)]) hx hb dX10_isTooGreat_33 rfl hl (by decide) rfl (fun ls hl => ?_)
  refine lv_iinc (v := 2) (lv' := [(2, .int 2), (1, .int 0), (0, .ref q1)]) hx hb dX10_isTooGreat_34 hl (k := 1) rfl (by decide) (by decide) rfl (fun ls hl => ?_)
  refine lv_goto (tgt := 8) hx hb dX10_isTooGreat_37 (by decide) ?_
  refine lv_iload_n hx hb dX10_isTooGreat_8 rfl (lv_at hl 0 rfl) ?_
  refine lv_bipush (v := 8) hx hb dX10_isTooGreat_9 (by decide) ?_
  refine lv_icmp_ge (tgt := 40) hx hb dX10_isTooGreat_11 (by decide) (fun h => absurd h (by decide)) (fun _ => ?_)
  refine lv_iload_n hx hb dX10_isTooGreat_14 rfl (lv_at hl 1 rfl) ?_
  refine lv_aload_n hx hb dX10_isTooGreat_15 rfl (lv_at hl 2 rfl) ?_
  refine gf_RX10_22 hx hb hown hE hP 3 rfl rfl dX10_isTooGreat_16 ?_
  refine lv_iload_n hx hb dX10_isTooGreat_19 rfl (lv_at hl 0 rfl) ?_
  refine x_iald (v := 0) hx hb hE hP 1 rfl 2 (x_in (by decide)) (by decide) hf54 dX10_isTooGreat_20 ?_
  refine lv_sipush (v := 20000) hx hb dX10_isTooGreat_21 (by decide) ?_
  refine lv_icmp_le (tgt := 31) hx hb dX10_isTooGreat_24 (by decide) (fun _ => ?_) (fun h => absurd (by decide) h)
  refine lv_iconst (v := 0) hx hb dX10_isTooGreat_31 (by decide) ?_
  refine x_ior (v := 0) hx hb dX10_isTooGreat_32 (by decide) ?_
  refine lv_istore_n (lv' := [(1, .int 0), (2, .int 2), (0, .ref q1)]) hx hb dX10_isTooGreat_33 rfl hl (by decide) rfl (fun ls hl => ?_)
  refine lv_iinc (v := 3) (lv' := [(2, .int 3), (1, .int 0), (0, .ref q1)]) hx hb dX10_isTooGreat_34 hl (k := 1) rfl (by decide) (by decide) rfl (fun ls hl => ?_)
  refine lv_goto (tgt := 8) hx hb dX10_isTooGreat_37 (by decide) ?_
  refine lv_iload_n hx hb dX10_isTooGreat_8 rfl (lv_at hl 0 rfl) ?_
  refine lv_bipush (v := 8) hx hb dX10_isTooGreat_9 (by decide) ?_
  refine lv_icmp_ge (tgt := 40) hx hb dX10_isTooGreat_11 (by decide) (fun h => absurd h (by decide)) (fun _ => ?_)
  refine lv_iload_n hx hb dX10_isTooGreat_14 rfl (lv_at hl 1 rfl) ?_
  refine lv_aload_n hx hb dX10_isTooGreat_15 rfl (lv_at hl 2 rfl) ?_
  refine gf_RX10_22 hx hb hown hE hP 3 rfl rfl dX10_isTooGreat_16 ?_
  refine lv_iload_n hx hb dX10_isTooGreat_19 rfl (lv_at hl 0 rfl) ?_
  refine x_iald (v := 0) hx hb hE hP 1 rfl 3 (x_in (by decide)) (by decide) hf55 dX10_isTooGreat_20 ?_
  refine lv_sipush (v := 20000) hx hb dX10_isTooGreat_21 (by decide) ?_
  refine lv_icmp_le (tgt := 31) hx hb dX10_isTooGreat_24 (by decide) (fun _ => ?_) (fun h => absurd (by decide) h)
  refine lv_iconst (v := 0) hx hb dX10_isTooGreat_31 (by decide) ?_
  refine x_ior (v := 0) hx hb dX10_isTooGreat_32 (by decide) ?_
  refine lv_istore_n (lv' := [(1, .int 0), (2, .int 3), (0, .ref q1)]) hx hb dX10_isTooGreat_33 rfl hl (by decide) rfl (fun ls hl => ?_)
  refine lv_iinc (v := 4) (lv' := [(2, .int 4), (1, .int 0), (0, .ref q1)]) hx hb dX10_isTooGreat_34 hl (k := 1) rfl (by decide) (by decide) rfl (fun ls hl => ?_)
  refine lv_goto (tgt := 8) hx hb dX10_isTooGreat_37 (by decide) ?_
  refine lv_iload_n hx hb dX10_isTooGreat_8 rfl (lv_at hl 0 rfl) ?_
  refine lv_bipush (v := 8) hx hb dX10_isTooGreat_9 (by decide) ?_
  refine lv_icmp_ge (tgt := 40) hx hb dX10_isTooGreat_11 (by decide) (fun h => absurd h (by decide)) (fun _ => ?_)
  refine lv_iload_n hx hb dX10_isTooGreat_14 rfl (lv_at hl 1 rfl) ?_
  refine lv_aload_n hx hb dX10_isTooGreat_15 rfl (lv_at hl 2 rfl) ?_
  refine gf_RX10_22 hx hb hown hE hP 3 rfl rfl dX10_isTooGreat_16 ?_
  refine lv_iload_n hx hb dX10_isTooGreat_19 rfl (lv_at hl 0 rfl) ?_
  refine x_iald (v := 0) hx hb hE hP 1 rfl 4 (x_in (by decide)) (by decide) hf56 dX10_isTooGreat_20 ?_
  refine lv_sipush (v := 20000) hx hb dX10_isTooGreat_21 (by decide) ?_
  refine lv_icmp_le (tgt := 31) hx hb dX10_isTooGreat_24 (by decide) (fun _ => ?_) (fun h => absurd (by decide) h)
  refine lv_iconst (v := 0) hx hb dX10_isTooGreat_31 (by decide) ?_
  refine x_ior (v := 0) hx hb dX10_isTooGreat_32 (by decide) ?_
  refine lv_istore_n (lv' := [(1, .int 0), (2, .int 4), (0, .ref q1)]) hx hb dX10_isTooGreat_33 rfl hl (by decide) rfl (fun ls hl => ?_)
  refine lv_iinc (v := 5) (lv' := [(2, .int 5), (1, .int 0), (0, .ref q1)]) hx hb dX10_isTooGreat_34 hl (k := 1) rfl (by decide) (by decide) rfl (fun ls hl => ?_)
  refine lv_goto (tgt := 8) hx hb dX10_isTooGreat_37 (by decide) ?_
  refine lv_iload_n hx hb dX10_isTooGreat_8 rfl (lv_at hl 0 rfl) ?_
  refine lv_bipush (v := 8) hx hb dX10_isTooGreat_9 (by decide) ?_
  refine lv_icmp_ge (tgt := 40) hx hb dX10_isTooGreat_11 (by decide) (fun h => absurd h (by decide)) (fun _ => ?_)
  refine lv_iload_n hx hb dX10_isTooGreat_14 rfl (lv_at hl 1 rfl) ?_
  refine lv_aload_n hx hb dX10_isTooGreat_15 rfl (lv_at hl 2 rfl) ?_
  refine gf_RX10_22 hx hb hown hE hP 3 rfl rfl dX10_isTooGreat_16 ?_
  refine lv_iload_n hx hb dX10_isTooGreat_19 rfl (lv_at hl 0 rfl) ?_
  refine x_iald (v := 0) hx hb hE hP 1 rfl 5 (x_in (by decide)) (by decide) hf57 dX10_isTooGreat_20 ?_
  refine lv_sipush (v := 20000) hx hb dX10_isTooGreat_21 (by decide) ?_
  refine lv_icmp_le (tgt := 31) hx hb dX10_isTooGreat_24 (by decide) (fun _ => ?_) (fun h => absurd (by decide) h)
  refine lv_iconst (v := 0) hx hb dX10_isTooGreat_31 (by decide) ?_
  refine x_ior (v := 0) hx hb dX10_isTooGreat_32 (by decide) ?_
  refine lv_istore_n (lv' := [(1, .int 0), (2, .int 5), (0, .ref q1)]) hx hb dX10_isTooGreat_33 rfl hl (by decide) rfl (fun ls hl => ?_)
  refine lv_iinc (v := 6) (lv' := [(2, .int 6), (1, .int 0), (0, .ref q1)]) hx hb dX10_isTooGreat_34 hl (k := 1) rfl (by decide) (by decide) rfl (fun ls hl => ?_)
  refine lv_goto (tgt := 8) hx hb dX10_isTooGreat_37 (by decide) ?_
  refine lv_iload_n hx hb dX10_isTooGreat_8 rfl (lv_at hl 0 rfl) ?_
  refine lv_bipush (v := 8) hx hb dX10_isTooGreat_9 (by decide) ?_
  refine lv_icmp_ge (tgt := 40) hx hb dX10_isTooGreat_11 (by decide) (fun h => absurd h (by decide)) (fun _ => ?_)
  refine lv_iload_n hx hb dX10_isTooGreat_14 rfl (lv_at hl 1 rfl) ?_
  refine lv_aload_n hx hb dX10_isTooGreat_15 rfl (lv_at hl 2 rfl) ?_
  refine gf_RX10_22 hx hb hown hE hP 3 rfl rfl dX10_isTooGreat_16 ?_
  refine lv_iload_n hx hb dX10_isTooGreat_19 rfl (lv_at hl 0 rfl) ?_
  refine x_iald (v := 0) hx hb hE hP 1 rfl 6 (x_in (by decide)) (by decide) hf58 dX10_isTooGreat_20 ?_
  refine lv_sipush (v := 20000) hx hb dX10_isTooGreat_21 (by decide) ?_
  refine lv_icmp_le (tgt := 31) hx hb dX10_isTooGreat_24 (by decide) (fun _ => ?_) (fun h => absurd (by decide) h)
  refine lv_iconst (v := 0) hx hb dX10_isTooGreat_31 (by decide) ?_
  refine x_ior (v := 0) hx hb dX10_isTooGreat_32 (by decide) ?_
  refine lv_istore_n (lv' := [(1, .int 0), (2, .int 6), (0, .ref q1)]) hx hb dX10_isTooGreat_33 rfl hl (by decide) rfl (fun ls hl => ?_)
  refine lv_iinc (v := 7) (lv' := [(2, .int 7), (1, .int 0), (0, .ref q1)]) hx hb dX10_isTooGreat_34 hl (k := 1) rfl (by decide) (by decide) rfl (fun ls hl => ?_)
  refine lv_goto (tgt := 8) hx hb dX10_isTooGreat_37 (by decide) ?_
  refine lv_iload_n hx hb dX10_isTooGreat_8 rfl (lv_at hl 0 rfl) ?_
  refine lv_bipush (v := 8) hx hb dX10_isTooGreat_9 (by decide) ?_
  refine lv_icmp_ge (tgt := 40) hx hb dX10_isTooGreat_11 (by decide) (fun h => absurd h (by decide)) (fun _ => ?_)
  refine lv_iload_n hx hb dX10_isTooGreat_14 rfl (lv_at hl 1 rfl) ?_
  refine lv_aload_n hx hb dX10_isTooGreat_15 rfl (lv_at hl 2 rfl) ?_
  refine gf_RX10_22 hx hb hown hE hP 3 rfl rfl dX10_isTooGreat_16 ?_
  refine lv_iload_n hx hb dX10_isTooGreat_19 rfl (lv_at hl 0 rfl) ?_
  refine x_iald (v := 0) hx hb hE hP 1 rfl 7 (x_in (by decide)) (by decide) hf59 dX10_isTooGreat_20 ?_
  refine lv_sipush (v := 20000) hx hb dX10_isTooGreat_21 (by decide) ?_
  refine lv_icmp_le (tgt := 31) hx hb dX10_isTooGreat_24 (by decide) (fun _ => ?_) (fun h => absurd (by decide) h)
  refine lv_iconst (v := 0) hx hb dX10_isTooGreat_31 (by decide) ?_
  refine x_ior (v := 0) hx hb dX10_isTooGreat_32 (by decide) ?_
  refine lv_istore_n (lv' := [(1, .int 0), (2, .int 7), (0, .ref q1)]) hx hb dX10_isTooGreat_33 rfl hl (by decide) rfl (fun ls hl => ?_)
  refine lv_iinc (v := 8) (lv' := [(2, .int 8), (1, .int 0), (0, .ref q1)]) hx hb dX10_isTooGreat_34 hl (k := 1) rfl (by decide) (by decide) rfl (fun ls hl => ?_)
  refine lv_goto (tgt := 8) hx hb dX10_isTooGreat_37 (by decide) ?_
  refine lv_iload_n hx hb dX10_isTooGreat_8 rfl (lv_at hl 0 rfl) ?_
  refine lv_bipush (v := 8) hx hb dX10_isTooGreat_9 (by decide) ?_
  refine lv_icmp_ge (tgt := 40) hx hb dX10_isTooGreat_11 (by decide) (fun _ => ?_) (fun h => absurd (by decide) h)
  refine lv_iconst (v := 0) hx hb dX10_isTooGreat_40 (by decide) ?_
  refine lv_istore_n (lv' := [(2, .int 0), (1, .int 0), (0, .ref q1)]) hx hb dX10_isTooGreat_41 rfl hl (by decide) rfl (fun ls hl => ?_)
  refine lv_iconst (v := 0) hx hb dX10_isTooGreat_42 (by decide) ?_
  refine lv_istore_n (lv' := [(3, .int 0), (2, .int 0), (1, .int 0), (0, .ref q1)]) hx hb dX10_isTooGreat_43 rfl hl (by decide) rfl (fun ls hl => ?_)
  refine lv_iload_n hx hb dX10_isTooGreat_44 rfl (lv_at hl 0 rfl) ?_
  refine lv_aload_n hx hb dX10_isTooGreat_45 rfl (lv_at hl 3 rfl) ?_
  refine gf_RX10_9 hx hb hown hE hP 3 rfl rfl dX10_isTooGreat_46 ?_
  refine lv_sipush (v := 392) hx hb dX10_isTooGreat_49 (by decide) ?_
  refine x_iald (v := 1) hx hb hE hP 2 rfl 392 (x_in (by decide)) (by decide) hf60 dX10_isTooGreat_52 ?_
  refine lv_icmp_ge (tgt := 115) hx hb dX10_isTooGreat_53 (by decide) (fun h => absurd h (by decide)) (fun _ => ?_)
  refine lv_iload_n hx hb dX10_isTooGreat_56 rfl (lv_at hl 2 rfl) ?_
  refine lv_aload_n hx hb dX10_isTooGreat_57 rfl (lv_at hl 3 rfl) ?_
  refine lv_iload_n hx hb dX10_isTooGreat_58 rfl (lv_at hl 0 rfl) ?_
  refine lv_iconst (v := 2) hx hb dX10_isTooGreat_59 (by decide) ?_
  refine g_i (wr := [(q41, .inl (g.2 0, 8, .inl f51)), (q40, .inl (g.2 0, 8, .inl f51))]) (rV (rest := [.int 0]) hx hb hml hown hE hP hD 3 rfl rfl (c1512_X10_ofClip l g q1 q39 x62 w3 w4 w5 w6 w7 w8 (.ref q40) (.ref q41) w11 w12 w13 w14 w15 w16 w17 w18 w19 w20 w21 w22 w23 w24 w25 w26 w27 w28 w29 w30 w31 w32 w33 w34 w35 w36 w37 w38 f42 (hf61) H.size) (kV_X10_ofClip hE (e1466 hE) rfl rfl ⟨(Nat.le_of_ble_eq_true rfl), (Nat.le_of_ble_eq_true rfl)⟩) [2, 3] rfl (by decide) rfl hl.1 rfl (lv_room (Nat.le_of_ble_eq_true rfl)) dX10_isTooGreat_60 ⟨(Nat.le_of_ble_eq_true rfl), (Nat.le_of_ble_eq_true rfl)⟩) hP hD hS hA [2, 3] [0, 1] rfl rfl (by decide) (by decide) (fun u2 H locs hP hD hS => ?_)
  have hP : va_P g.1 vwCl [(q41, .inl (g.2 0, 8, .inl f51)), (q40, .inl (g.2 0, 8, .inl f51)), (q39, .inl (g.2 0, 497, .inl f42)), (q1, .inr (12, [.ref q39, w3, w4, w5, w6, w7, w8, .ref q40, .ref q41, w11, w12, w13, w14, w15, w16, w17, w18, w19, w20, w21, w22, w23, w24, w25, w26, w27, w28, w29, w30, w31, w32, w33, w34, w35, w36, w37, w38]))] H := hP
  have hD : va_D A [(q41, .inl (g.2 0, 8, .inl f51)), (q40, .inl (g.2 0, 8, .inl f51)), (q39, .inl (g.2 0, 497, .inl f42)), (q1, .inr (12, [.ref q39, w3, w4, w5, w6, w7, w8, .ref q40, .ref q41, w11, w12, w13, w14, w15, w16, w17, w18, w19, w20, w21, w22, w23, w24, w25, w26, w27, w28, w29, w30, w31, w32, w33, w34, w35, w36, w37, w38]))] := hD
  refine lv_aload_n hx hb dX10_isTooGreat_63 rfl (lv_at hl 3 rfl) ?_
  refine gf_RX10_22 hx hb hown hE hP 3 rfl rfl dX10_isTooGreat_64 ?_
  refine lv_aload_n hx hb dX10_isTooGreat_67 rfl (lv_at hl 3 rfl) ?_
  refine lv_iload_n hx hb dX10_isTooGreat_68 rfl (lv_at hl 0 rfl) ?_
  refine lv_iconst (v := 1) hx hb dX10_isTooGreat_69 (by decide) ?_
  refine g_i (wr := [(q41, .inl (g.2 0, 8, .inl f51)), (q40, .inl (g.2 0, 8, .inl f51))]) (rV (rest := [.ref q40, .int x62, .int 0]) hx hb hml hown hE hP hD 3 rfl rfl (c1513_X10_ofClip l g q1 q39 w3 w4 w5 w6 w7 w8 (.ref q40) (.ref q41) w11 w12 w13 w14 w15 w16 w17 w18 w19 w20 w21 w22 w23 w24 w25 w26 w27 w28 w29 w30 w31 w32 w33 w34 w35 w36 w37 w38 f42 (hf63) H.size) (kV_X10_ofClip hE (e1466 hE) rfl rfl ⟨(Nat.le_of_ble_eq_true rfl), (Nat.le_of_ble_eq_true rfl)⟩) [2, 3] rfl (by decide) rfl hl.1 rfl (lv_room (Nat.le_of_ble_eq_true rfl)) dX10_isTooGreat_70 ⟨(Nat.le_of_ble_eq_true rfl), (Nat.le_of_ble_eq_true rfl)⟩) hP hD hS hA [2, 3] [0, 1] rfl rfl (by decide) (by decide) (fun u3 H locs hP hD hS => ?_)
  have hP : va_P g.1 vwCl [(q41, .inl (g.2 0, 8, .inl f51)), (q40, .inl (g.2 0, 8, .inl f51)), (q39, .inl (g.2 0, 497, .inl f42)), (q1, .inr (12, [.ref q39, w3, w4, w5, w6, w7, w8, .ref q40, .ref q41, w11, w12, w13, w14, w15, w16, w17, w18, w19, w20, w21, w22, w23, w24, w25, w26, w27, w28, w29, w30, w31, w32, w33, w34, w35, w36, w37, w38]))] H := hP
  have hD : va_D A [(q41, .inl (g.2 0, 8, .inl f51)), (q40, .inl (g.2 0, 8, .inl f51)), (q39, .inl (g.2 0, 497, .inl f42)), (q1, .inr (12, [.ref q39, w3, w4, w5, w6, w7, w8, .ref q40, .ref q41, w11, w12, w13, w14, w15, w16, w17, w18, w19, w20, w21, w22, w23, w24, w25, w26, w27, w28, w29, w30, w31, w32, w33, w34, w35, w36, w37, w38]))] := hD
  refine x_iald (v := 0) hx hb hE hP 1 rfl 0 (x_in (by decide)) (by decide) hf52 dX10_isTooGreat_73 ?_
  refine x_imul (v := 0) hx hb dX10_isTooGreat_74 (Int32.mul_zero) ?_
  refine lv_sipush (v := 20000) hx hb dX10_isTooGreat_75 (by decide) ?_
  refine lv_icmp_le (tgt := 85) hx hb dX10_isTooGreat_78 (by decide) (fun _ => ?_) (fun h => absurd (by decide) h)
  refine lv_iconst (v := 0) hx hb dX10_isTooGreat_85 (by decide) ?_
  refine x_ior (v := 0) hx hb dX10_isTooGreat_86 (by decide) ?_
  refine lv_istore_n (lv' := [(1, .int 0), (3, .int 0), (2, .int 0), (0, .ref q1)]) hx hb dX10_isTooGreat_87 rfl hl (by decide) rfl (fun ls hl => ?_)
  refine lv_iload_n hx hb dX10_isTooGreat_88 rfl (lv_at hl 2 rfl) ?_
  refine lv_aload_n hx hb dX10_isTooGreat_89 rfl (lv_at hl 3 rfl) ?_
  refine lv_iload_n hx hb dX10_isTooGreat_90 rfl (lv_at hl 1 rfl) ?_
  refine lv_iconst (v := 2) hx hb dX10_isTooGreat_91 (by decide) ?_
  refine g_i (wr := [(q41, .inl (g.2 0, 8, .inl f51)), (q40, .inl (g.2 0, 8, .inl f51))]) (rV (rest := [.int 0]) hx hb hml hown hE hP hD 3 rfl rfl (c1512_X10_ofClip l g q1 q39 x62 w3 w4 w5 w6 w7 w8 (.ref q40) (.ref q41) w11 w12 w13 w14 w15 w16 w17 w18 w19 w20 w21 w22 w23 w24 w25 w26 w27 w28 w29 w30 w31 w32 w33 w34 w35 w36 w37 w38 f42 (hf61) H.size) (kV_X10_ofClip hE (e1466 hE) rfl rfl ⟨(Nat.le_of_ble_eq_true rfl), (Nat.le_of_ble_eq_true rfl)⟩) [2, 3] rfl (by decide) rfl hl.1 rfl (lv_room (Nat.le_of_ble_eq_true rfl)) dX10_isTooGreat_92 ⟨(Nat.le_of_ble_eq_true rfl), (Nat.le_of_ble_eq_true rfl)⟩) hP hD hS hA [2, 3] [0, 1] rfl rfl (by decide) (by decide) (fun u4 H locs hP hD hS => ?_)
  have hP : va_P g.1 vwCl [(q41, .inl (g.2 0, 8, .inl f51)), (q40, .inl (g.2 0, 8, .inl f51)), (q39, .inl (g.2 0, 497, .inl f42)), (q1, .inr (12, [.ref q39, w3, w4, w5, w6, w7, w8, .ref q40, .ref q41, w11, w12, w13, w14, w15, w16, w17, w18, w19, w20, w21, w22, w23, w24, w25, w26, w27, w28, w29, w30, w31, w32, w33, w34, w35, w36, w37, w38]))] H := hP
  have hD : va_D A [(q41, .inl (g.2 0, 8, .inl f51)), (q40, .inl (g.2 0, 8, .inl f51)), (q39, .inl (g.2 0, 497, .inl f42)), (q1, .inr (12, [.ref q39, w3, w4, w5, w6, w7, w8, .ref q40, .ref q41, w11, w12, w13, w14, w15, w16, w17, w18, w19, w20, w21, w22, w23, w24, w25, w26, w27, w28, w29, w30, w31, w32, w33, w34, w35, w36, w37, w38]))] := hD
  refine lv_aload_n hx hb dX10_isTooGreat_95 rfl (lv_at hl 3 rfl) ?_
  refine gf_RX10_25 hx hb hown hE hP 3 rfl rfl dX10_isTooGreat_96 ?_
  refine lv_aload_n hx hb dX10_isTooGreat_99 rfl (lv_at hl 3 rfl) ?_
  refine lv_iload_n hx hb dX10_isTooGreat_100 rfl (lv_at hl 1 rfl) ?_
  refine lv_iconst (v := 1) hx hb dX10_isTooGreat_101 (by decide) ?_
  refine g_i (wr := [(q41, .inl (g.2 0, 8, .inl f51)), (q40, .inl (g.2 0, 8, .inl f51))]) (rV (rest := [.ref q41, .int x62, .int 0]) hx hb hml hown hE hP hD 3 rfl rfl (c1513_X10_ofClip l g q1 q39 w3 w4 w5 w6 w7 w8 (.ref q40) (.ref q41) w11 w12 w13 w14 w15 w16 w17 w18 w19 w20 w21 w22 w23 w24 w25 w26 w27 w28 w29 w30 w31 w32 w33 w34 w35 w36 w37 w38 f42 (hf63) H.size) (kV_X10_ofClip hE (e1466 hE) rfl rfl ⟨(Nat.le_of_ble_eq_true rfl), (Nat.le_of_ble_eq_true rfl)⟩) [2, 3] rfl (by decide) rfl hl.1 rfl (lv_room (Nat.le_of_ble_eq_true rfl)) dX10_isTooGreat_102 ⟨(Nat.le_of_ble_eq_true rfl), (Nat.le_of_ble_eq_true rfl)⟩) hP hD hS hA [2, 3] [0, 1] rfl rfl (by decide) (by decide) (fun u5 H locs hP hD hS => ?_)
  have hP : va_P g.1 vwCl [(q41, .inl (g.2 0, 8, .inl f51)), (q40, .inl (g.2 0, 8, .inl f51)), (q39, .inl (g.2 0, 497, .inl f42)), (q1, .inr (12, [.ref q39, w3, w4, w5, w6, w7, w8, .ref q40, .ref q41, w11, w12, w13, w14, w15, w16, w17, w18, w19, w20, w21, w22, w23, w24, w25, w26, w27, w28, w29, w30, w31, w32, w33, w34, w35, w36, w37, w38]))] H := hP
  have hD : va_D A [(q41, .inl (g.2 0, 8, .inl f51)), (q40, .inl (g.2 0, 8, .inl f51)), (q39, .inl (g.2 0, 497, .inl f42)), (q1, .inr (12, [.ref q39, w3, w4, w5, w6, w7, w8, .ref q40, .ref q41, w11, w12, w13, w14, w15, w16, w17, w18, w19, w20, w21, w22, w23, w24, w25, w26, w27, w28, w29, w30, w31, w32, w33, w34, w35, w36, w37, w38]))] := hD
  refine x_iald (v := 0) hx hb hE hP 0 rfl 0 (x_in (by decide)) (by decide) hf52 dX10_isTooGreat_105 ?_
  refine x_imul (v := 0) hx hb dX10_isTooGreat_106 (Int32.mul_zero) ?_
  refine x_iadd (v := 0) hx hb dX10_isTooGreat_107 (by decide) ?_
  refine lv_istore_n (lv' := [(2, .int 0), (1, .int 0), (3, .int 0), (0, .ref q1)]) hx hb dX10_isTooGreat_108 rfl hl (by decide) rfl (fun ls hl => ?_)
  refine lv_iinc (v := 1) (lv' := [(3, .int 1), (2, .int 0), (1, .int 0), (0, .ref q1)]) hx hb dX10_isTooGreat_109 hl (k := 2) rfl (by decide) (by decide) rfl (fun ls hl => ?_)
  refine lv_goto (tgt := 44) hx hb dX10_isTooGreat_112 (by decide) ?_
  refine lv_iload_n hx hb dX10_isTooGreat_44 rfl (lv_at hl 0 rfl) ?_
  refine lv_aload_n hx hb dX10_isTooGreat_45 rfl (lv_at hl 3 rfl) ?_
  refine gf_RX10_9 hx hb hown hE hP 3 rfl rfl dX10_isTooGreat_46 ?_
  refine lv_sipush (v := 392) hx hb dX10_isTooGreat_49 (by decide) ?_
  refine x_iald (v := 1) hx hb hE hP 2 rfl 392 (x_in (by decide)) (by decide) hf60 dX10_isTooGreat_52 ?_
  refine lv_icmp_ge (tgt := 115) hx hb dX10_isTooGreat_53 (by decide) (fun _ => ?_) (fun h => absurd (by decide) h)
  refine lv_iload_n hx hb dX10_isTooGreat_115 rfl (lv_at hl 2 rfl) ?_
  refine lv_if_ne (tgt := 126) hx hb dX10_isTooGreat_116 (by decide) (fun h => absurd h (by decide)) (fun _ => ?_)
  refine lv_iload_n hx hb dX10_isTooGreat_119 rfl (lv_at hl 1 rfl) ?_
  refine lv_sipush (v := 300) hx hb dX10_isTooGreat_120 (by decide) ?_
  refine lv_icmp_le (tgt := 130) hx hb dX10_isTooGreat_123 (by decide) (fun _ => ?_) (fun h => absurd (by decide) h)
  refine lv_iconst (v := 0) hx hb dX10_isTooGreat_130 (by decide) ?_
  exact x_zret hx hb hr rfl rfl hlocks hP hD hS hAe hsz (Nat.le_of_ble_eq_true rfl) (Nat.le_of_ble_eq_true rfl) (fun _ => 0) [0, 1, 2, 3] (by decide) rfl dX10_isTooGreat_131

set_option maxHeartbeats 4000000 in
set_option maxRecDepth 100000 in
theorem c1515_X10_addClip (l : Launch) (g : gG) (q1 q51 q54 q57 q58 q75 : Nat) (x2 x3 x4 x5 : Int32) (w7 w9 w12 w15 w16 w17 w18 w19 w20 w21 w22 w23 w24 w25 w26 w27 w28 w29 w30 w31 w32 w33 w34 w35 w36 w37 w38 w39 w40 w41 w42 : Value) (f52 : Nat → Int32) (f55 : Nat → Int32) (hf53 : f52 392 = 0) (hf56 : f52 394 = 0) (hf59 : f52 0 = 0) (hf60 : f52 49 = 0) (hf61 : f52 98 = 0) (hf62 : f52 147 = 0) (hf63 : f52 196 = 0) (hf64 : f52 245 = 0) (hf65 : f52 294 = 0) (hf66 : f52 343 = 0) (hf67 : f55 0 = 0) (hf68 : f55 1 = 0) (hf69 : f55 2 = 0) (hf70 : f55 3 = 0) (hf71 : f55 4 = 0) (hf72 : f55 5 = 0) (hf73 : f55 6 = 0) (hf74 : f55 7 = 0) (h43 : (0 : Int32) ≤ x2) (h44 : x2 ≤ 9999) (h45 : (1 : Int32) ≤ x3) (h46 : x3 ≤ 9) (h47 : ((-50) : Int32) ≤ x4) (h48 : x4 ≤ 50) (h49 : (0 : Int32) ≤ x5) (h50 : x5 ≤ 3) (sz : Nat) : Met l yX10_addClip [Cond.code yX10_addClip cX10_addClip 8 (some .int)] ({ frames := 4, cells := 0, slots := 0, locals := 89 } : Room) (va_Pc [.ref q1, .int x2, .int 0, .int x3, .int x4, .int x5] (PX g sz [(q75, .inl (g.2 0, 3976, .inl f55)), (q58, .inl (g.2 0, 8, .inl f55)), (q57, .inl (g.2 0, 8, .inl f55)), (q54, .inl (g.2 0, 497, .inl f55)), (q51, .inl (g.2 0, 497, .inl f52)), (q1, .inr (12, [.ref q51, w7, .ref q54, w9, .ref q75, .int 0, w12, .ref q57, .ref q58, w15, w16, w17, w18, w19, w20, w21, w22, w23, w24, w25, w26, w27, w28, w29, w30, w31, w32, w33, w34, w35, w36, w37, w38, w39, w40, w41, w42]))])) (QI g [(q75, .inl (g.2 0, 3976, .inl f55)), (q58, .inl (g.2 0, 8, .inl f55)), (q57, .inl (g.2 0, 8, .inl f55)), (q54, .inl (g.2 0, 497, .inl f55)), (q51, .inl (g.2 0, 497, .inl f52)), (q1, .inr (12, [.ref q51, w7, .ref q54, w9, .ref q75, .int 0, w12, .ref q57, .ref q58, w15, w16, w17, w18, w19, w20, w21, w22, w23, w24, w25, w26, w27, w28, w29, w30, w31, w32, w33, w34, w35, w36, w37, w38, w39, w40, w41, w42]))] sz 0 (fun _ => [(q1, .inr (12, [.ref q51, w7, .ref q54, w9, .ref q75, .int 1, .int 0, .ref q57, .ref q58, w15, w16, w17, w18, w19, w20, w21, w22, w23, w24, w25, w26, w27, w28, w29, w30, w31, w32, w33, w34, w35, w36, w37, w38, w39, w40, w41, w42]))])) 0 0 (va_A [(q75, .inl (g.2 0, 3976, .inl f55)), (q58, .inl (g.2 0, 8, .inl f55)), (q57, .inl (g.2 0, 8, .inl f55)), (q54, .inl (g.2 0, 497, .inl f55)), (q51, .inl (g.2 0, 497, .inl f52)), (q1, .inr (12, [.ref q51, w7, .ref q54, w9, .ref q75, .int 0, w12, .ref q57, .ref q58, w15, w16, w17, w18, w19, w20, w21, w22, w23, w24, w25, w26, w27, w28, w29, w30, w31, w32, w33, w34, w35, w36, w37, w38, w39, w40, w41, w42]))] sz) := by
  refine ofN (by decide) (Nat.le_of_ble_eq_true rfl) rfl ?_
  intro p e s m args below meth c A ls hAe hsz hx hb hml hr hlocks hin hown hE hP hD hA hS hl
  have hown : s.vm.findClass RX10 = some m.cls := hown
  refine lv_aload_n hx hb dX10_addClip_0 rfl (lv_at hl 0 rfl) ?_
  refine lv_iconst (v := 0) hx hb dX10_addClip_1 (by decide) ?_
  refine pf_RX10_86 (ws' := [(q75, .inl (g.2 0, 3976, .inl f55)), (q58, .inl (g.2 0, 8, .inl f55)), (q57, .inl (g.2 0, 8, .inl f55)), (q54, .inl (g.2 0, 497, .inl f55)), (q51, .inl (g.2 0, 497, .inl f52)), (q1, .inr (12, [.ref q51, w7, .ref q54, w9, .ref q75, .int 0, .int 0, .ref q57, .ref q58, w15, w16, w17, w18, w19, w20, w21, w22, w23, w24, w25, w26, w27, w28, w29, w30, w31, w32, w33, w34, w35, w36, w37, w38, w39, w40, w41, w42]))]) hx hb hown hE hP hD hS 5 rfl rfl rfl (Nat.le_of_ble_eq_true rfl) dX10_addClip_2 rfl (fun H locs hP hD hS => ?_)
  refine lv_iload_n hx hb dX10_addClip_5 rfl (lv_at hl 1 rfl) ?_
  refine lv_iconst (v := 0) hx hb dX10_addClip_6 (by decide) ?_
  refine lv_sipush (v := 9999) hx hb dX10_addClip_7 (by decide) ?_
  refine g0_i (rS (rest := []) hx hb hml hown hE hP hD (c1480_X10_in l g x2 h43 h44 H.size) (kS_X10_in hE (e1431 hE) rfl rfl ⟨(Nat.le_of_ble_eq_true rfl), (Nat.le_of_ble_eq_true rfl)⟩) [] rfl (by decide) rfl hl.1 rfl (lv_room (Nat.le_of_ble_eq_true rfl)) dX10_addClip_10 ⟨(Nat.le_of_ble_eq_true rfl), (Nat.le_of_ble_eq_true rfl)⟩) hP hD hS hA (fun u9 H locs hP hS => ?_)
  refine lv_if_eq (tgt := 59) hx hb dX10_addClip_13 (by decide) (fun h => absurd h (by decide)) (fun _ => ?_)
  refine lv_iload_n hx hb dX10_addClip_16 rfl (lv_at hl 2 rfl) ?_
  refine g0_i (rS (rest := []) hx hb hml hown hE hP hD (c94_X10_isPattern l g 0 (by decide) (by decide) H.size) (kS_X10_isPattern hE (e1428 hE) rfl rfl ⟨(Nat.le_of_ble_eq_true rfl), (Nat.le_of_ble_eq_true rfl)⟩) [] rfl (by decide) rfl hl.1 rfl (lv_room (Nat.le_of_ble_eq_true rfl)) dX10_addClip_17 ⟨(Nat.le_of_ble_eq_true rfl), (Nat.le_of_ble_eq_true rfl)⟩) hP hD hS hA (fun u9 H locs hP hS => ?_)
  refine lv_if_eq (tgt := 59) hx hb dX10_addClip_20 (by decide) (fun h => absurd h (by decide)) (fun _ => ?_)
  refine lv_iload_n hx hb dX10_addClip_23 rfl (lv_at hl 3 rfl) ?_
  refine lv_iconst (v := 1) hx hb dX10_addClip_24 (by decide) ?_
  refine lv_bipush (v := 9) hx hb dX10_addClip_25 (by decide) ?_
  refine g0_i (rS (rest := []) hx hb hml hown hE hP hD (c196_X10_in l g x3 h45 h46 H.size) (kS_X10_in hE (e1431 hE) rfl rfl ⟨(Nat.le_of_ble_eq_true rfl), (Nat.le_of_ble_eq_true rfl)⟩) [] rfl (by decide) rfl hl.1 rfl (lv_room (Nat.le_of_ble_eq_true rfl)) dX10_addClip_27 ⟨(Nat.le_of_ble_eq_true rfl), (Nat.le_of_ble_eq_true rfl)⟩) hP hD hS hA (fun u9 H locs hP hS => ?_)
  refine lv_if_eq (tgt := 59) hx hb dX10_addClip_30 (by decide) (fun h => absurd h (by decide)) (fun _ => ?_)
  refine lv_iload hx hb dX10_addClip_33 (lv_at hl 4 rfl) ?_
  refine lv_bipush (v := (-50)) hx hb dX10_addClip_35 (by decide) ?_
  refine lv_bipush (v := 50) hx hb dX10_addClip_37 (by decide) ?_
  refine g0_i (rS (rest := []) hx hb hml hown hE hP hD (c1494_X10_in l g x4 h47 h48 H.size) (kS_X10_in hE (e1431 hE) rfl rfl ⟨(Nat.le_of_ble_eq_true rfl), (Nat.le_of_ble_eq_true rfl)⟩) [] rfl (by decide) rfl hl.1 rfl (lv_room (Nat.le_of_ble_eq_true rfl)) dX10_addClip_39 ⟨(Nat.le_of_ble_eq_true rfl), (Nat.le_of_ble_eq_true rfl)⟩) hP hD hS hA (fun u9 H locs hP hS => ?_)
  refine lv_if_eq (tgt := 59) hx hb dX10_addClip_42 (by decide) (fun h => absurd h (by decide)) (fun _ => ?_)
  refine lv_iload hx hb dX10_addClip_45 (lv_at hl 5 rfl) ?_
  refine lv_iconst (v := 0) hx hb dX10_addClip_47 (by decide) ?_
  refine lv_iconst (v := 3) hx hb dX10_addClip_48 (by decide) ?_
  refine g0_i (rS (rest := []) hx hb hml hown hE hP hD (c818_X10_in l g x5 h49 h50 H.size) (kS_X10_in hE (e1431 hE) rfl rfl ⟨(Nat.le_of_ble_eq_true rfl), (Nat.le_of_ble_eq_true rfl)⟩) [] rfl (by decide) rfl hl.1 rfl (lv_room (Nat.le_of_ble_eq_true rfl)) dX10_addClip_49 ⟨(Nat.le_of_ble_eq_true rfl), (Nat.le_of_ble_eq_true rfl)⟩) hP hD hS hA (fun u9 H locs hP hS => ?_)
  refine lv_if_eq (tgt := 59) hx hb dX10_addClip_52 (by decide) (fun h => absurd h (by decide)) (fun _ => ?_)
  refine lv_iconst (v := 1) hx hb dX10_addClip_55 (by decide) ?_
  refine lv_goto (tgt := 60) hx hb dX10_addClip_56 (by decide) ?_
  refine lv_istore (lv' := [(6, .int 1), (0, .ref q1), (1, .int x2), (2, .int 0), (3, .int x3), (4, .int x4), (5, .int x5)]) hx hb dX10_addClip_60 hl (by decide) rfl (fun ls hl => ?_)
  refine lv_iload hx hb dX10_addClip_62 (lv_at hl 0 rfl) ?_
  refine lv_if_ne (tgt := 73) hx hb dX10_addClip_64 (by decide) (fun _ => ?_) (fun h => absurd h (by decide))
  refine lv_aload_n hx hb dX10_addClip_73 rfl (lv_at hl 1 rfl) ?_
  refine gf_RX10_9 hx hb hown hE hP 5 rfl rfl dX10_addClip_74 ?_
  refine lv_sipush (v := 392) hx hb dX10_addClip_77 (by decide) ?_
  refine x_iald (v := 0) hx hb hE hP 4 rfl 392 (x_in (by decide)) (by decide) hf53 dX10_addClip_80 ?_
  refine lv_bipush (v := 12) hx hb dX10_addClip_81 (by decide) ?_
  refine lv_icmp_ne (tgt := 92) hx hb dX10_addClip_83 (by decide) (fun _ => ?_) (fun h => absurd h (by decide))
  refine lv_aload_n hx hb dX10_addClip_92 rfl (lv_at hl 1 rfl) ?_
  refine g_v (wr := [(q75, .inl (g.2 0, 3976, .inl f55)), (q58, .inl (g.2 0, 8, .inl f55)), (q57, .inl (g.2 0, 8, .inl f55))]) (rV (rest := []) hx hb hml hown hE hP hD 5 rfl rfl (c198_X10_putAside l g q1 q54 q51 w7 w9 (.ref q75) (.int 0) (.int 0) (.ref q57) (.ref q58) w15 w16 w17 w18 w19 w20 w21 w22 w23 w24 w25 w26 w27 w28 w29 w30 w31 w32 w33 w34 w35 w36 w37 w38 w39 w40 w41 w42 f52 f55 H.size) (kV_X10_putAside hE (e1437 hE) rfl rfl ⟨(Nat.le_of_ble_eq_true rfl), (Nat.le_of_ble_eq_true rfl)⟩) [3, 4, 5] rfl (by decide) rfl hl.1 rfl (lv_room (Nat.le_of_ble_eq_true rfl)) dX10_addClip_93 ⟨(Nat.le_of_ble_eq_true rfl), (Nat.le_of_ble_eq_true rfl)⟩) hP hD hS hA [3, 4, 5] [0, 1, 2] rfl rfl (by decide) (by decide) (fun u6 H locs hP hD hS => ?_)
  have hP : va_P g.1 vwCl [(q75, .inl (g.2 0, 3976, .inl f55)), (q58, .inl (g.2 0, 8, .inl f55)), (q57, .inl (g.2 0, 8, .inl f55)), (q54, .inl (g.2 0, 497, .inl (cpF 497 f52 f55))), (q51, .inl (g.2 0, 497, .inl f52)), (q1, .inr (12, [.ref q51, w7, .ref q54, w9, .ref q75, .int 0, .int 0, .ref q57, .ref q58, w15, w16, w17, w18, w19, w20, w21, w22, w23, w24, w25, w26, w27, w28, w29, w30, w31, w32, w33, w34, w35, w36, w37, w38, w39, w40, w41, w42]))] H := hP
  have hD : va_D A [(q75, .inl (g.2 0, 3976, .inl f55)), (q58, .inl (g.2 0, 8, .inl f55)), (q57, .inl (g.2 0, 8, .inl f55)), (q54, .inl (g.2 0, 497, .inl (cpF 497 f52 f55))), (q51, .inl (g.2 0, 497, .inl f52)), (q1, .inr (12, [.ref q51, w7, .ref q54, w9, .ref q75, .int 0, .int 0, .ref q57, .ref q58, w15, w16, w17, w18, w19, w20, w21, w22, w23, w24, w25, w26, w27, w28, w29, w30, w31, w32, w33, w34, w35, w36, w37, w38, w39, w40, w41, w42]))] := hD
  refine lv_sipush (v := 393) hx hb dX10_addClip_96 (by decide) ?_
  refine lv_iconst (v := 5) hx hb dX10_addClip_99 (by decide) ?_
  refine lv_aload_n hx hb dX10_addClip_100 rfl (lv_at hl 1 rfl) ?_
  refine gf_RX10_9 hx hb hown hE hP 5 rfl rfl dX10_addClip_101 ?_
  refine lv_sipush (v := 392) hx hb dX10_addClip_104 (by decide) ?_
  refine x_iald (v := 0) hx hb hE hP 4 rfl 392 (x_in (by decide)) (by decide) hf53 dX10_addClip_107 ?_
  refine x_imul (v := 0) hx hb dX10_addClip_108 (by decide) ?_
  refine x_iadd (v := 393) hx hb dX10_addClip_109 (by decide) ?_
  refine lv_istore (lv' := [(7, .int 393), (6, .int 1), (0, .ref q1), (1, .int x2), (2, .int 0), (3, .int x3), (4, .int x4), (5, .int x5)]) hx hb dX10_addClip_110 hl (by decide) rfl (fun ls hl => ?_)
  refine lv_aload_n hx hb dX10_addClip_112 rfl (lv_at hl 2 rfl) ?_
  refine gf_RX10_9 hx hb hown hE hP 5 rfl rfl dX10_addClip_113 ?_
  refine lv_iload hx hb dX10_addClip_116 (lv_at hl 0 rfl) ?_
  refine lv_iload_n hx hb dX10_addClip_118 rfl (lv_at hl 3 rfl) ?_
  refine x_iast (ws' := [(q75, .inl (g.2 0, 3976, .inl f55)), (q58, .inl (g.2 0, 8, .inl f55)), (q57, .inl (g.2 0, 8, .inl f55)), (q54, .inl (g.2 0, 497, .inl (cpF 497 f52 f55))), (q51, .inl (g.2 0, 497, .inl (upd f52 393 x2))), (q1, .inr (12, [.ref q51, w7, .ref q54, w9, .ref q75, .int 0, .int 0, .ref q57, .ref q58, w15, w16, w17, w18, w19, w20, w21, w22, w23, w24, w25, w26, w27, w28, w29, w30, w31, w32, w33, w34, w35, w36, w37, w38, w39, w40, w41, w42]))]) hx hb hE hP hD hS 4 rfl 393 (x_in (by decide)) (by decide) dX10_addClip_119 rfl (fun H locs hP hD hS => ?_)
  refine lv_aload_n hx hb dX10_addClip_120 rfl (lv_at hl 2 rfl) ?_
  refine gf_RX10_9 hx hb hown hE hP 5 rfl rfl dX10_addClip_121 ?_
  refine lv_iload hx hb dX10_addClip_124 (lv_at hl 0 rfl) ?_
  refine lv_iconst (v := 1) hx hb dX10_addClip_126 (by decide) ?_
  refine x_iadd (v := 394) hx hb dX10_addClip_127 (by decide) ?_
  refine lv_iload_n hx hb dX10_addClip_128 rfl (lv_at hl 4 rfl) ?_
  refine x_iast_same hx hb hE hP hD hS 4 rfl 394 (x_in (by decide)) (by decide) ((pk_un (by decide)).trans hf56) dX10_addClip_129 (fun H locs hP hD hS => ?_)
  refine lv_aload_n hx hb dX10_addClip_130 rfl (lv_at hl 2 rfl) ?_
  refine gf_RX10_9 hx hb hown hE hP 5 rfl rfl dX10_addClip_131 ?_
  refine lv_iload hx hb dX10_addClip_134 (lv_at hl 0 rfl) ?_
  refine lv_iconst (v := 2) hx hb dX10_addClip_136 (by decide) ?_
  refine x_iadd (v := 395) hx hb dX10_addClip_137 (by decide) ?_
  refine lv_iload_n hx hb dX10_addClip_138 rfl (lv_at hl 5 rfl) ?_
  refine x_iast (ws' := [(q75, .inl (g.2 0, 3976, .inl f55)), (q58, .inl (g.2 0, 8, .inl f55)), (q57, .inl (g.2 0, 8, .inl f55)), (q54, .inl (g.2 0, 497, .inl (cpF 497 f52 f55))), (q51, .inl (g.2 0, 497, .inl (upd (upd f52 393 x2) 395 x3))), (q1, .inr (12, [.ref q51, w7, .ref q54, w9, .ref q75, .int 0, .int 0, .ref q57, .ref q58, w15, w16, w17, w18, w19, w20, w21, w22, w23, w24, w25, w26, w27, w28, w29, w30, w31, w32, w33, w34, w35, w36, w37, w38, w39, w40, w41, w42]))]) hx hb hE hP hD hS 4 rfl 395 (x_in (by decide)) (by decide) dX10_addClip_139 rfl (fun H locs hP hD hS => ?_)
  refine lv_aload_n hx hb dX10_addClip_140 rfl (lv_at hl 2 rfl) ?_
  refine gf_RX10_9 hx hb hown hE hP 5 rfl rfl dX10_addClip_141 ?_
  refine lv_iload hx hb dX10_addClip_144 (lv_at hl 0 rfl) ?_
  refine lv_iconst (v := 3) hx hb dX10_addClip_146 (by decide) ?_
  refine x_iadd (v := 396) hx hb dX10_addClip_147 (by decide) ?_
  refine lv_iload hx hb dX10_addClip_148 (lv_at hl 6 rfl) ?_
  refine x_iast (ws' := [(q75, .inl (g.2 0, 3976, .inl f55)), (q58, .inl (g.2 0, 8, .inl f55)), (q57, .inl (g.2 0, 8, .inl f55)), (q54, .inl (g.2 0, 497, .inl (cpF 497 f52 f55))), (q51, .inl (g.2 0, 497, .inl (upd (upd (upd f52 393 x2) 395 x3) 396 x4))), (q1, .inr (12, [.ref q51, w7, .ref q54, w9, .ref q75, .int 0, .int 0, .ref q57, .ref q58, w15, w16, w17, w18, w19, w20, w21, w22, w23, w24, w25, w26, w27, w28, w29, w30, w31, w32, w33, w34, w35, w36, w37, w38, w39, w40, w41, w42]))]) hx hb hE hP hD hS 4 rfl 396 (x_in (by decide)) (by decide) dX10_addClip_150 rfl (fun H locs hP hD hS => ?_)
  refine lv_aload_n hx hb dX10_addClip_151 rfl (lv_at hl 2 rfl) ?_
  refine gf_RX10_9 hx hb hown hE hP 5 rfl rfl dX10_addClip_152 ?_
  refine lv_iload hx hb dX10_addClip_155 (lv_at hl 0 rfl) ?_
  refine lv_iconst (v := 4) hx hb dX10_addClip_157 (by decide) ?_
  refine x_iadd (v := 397) hx hb dX10_addClip_158 (by decide) ?_
  refine lv_iload hx hb dX10_addClip_159 (lv_at hl 7 rfl) ?_
  refine x_iast (ws' := [(q75, .inl (g.2 0, 3976, .inl f55)), (q58, .inl (g.2 0, 8, .inl f55)), (q57, .inl (g.2 0, 8, .inl f55)), (q54, .inl (g.2 0, 497, .inl (cpF 497 f52 f55))), (q51, .inl (g.2 0, 497, .inl (upd (upd (upd (upd f52 393 x2) 395 x3) 396 x4) 397 x5))), (q1, .inr (12, [.ref q51, w7, .ref q54, w9, .ref q75, .int 0, .int 0, .ref q57, .ref q58, w15, w16, w17, w18, w19, w20, w21, w22, w23, w24, w25, w26, w27, w28, w29, w30, w31, w32, w33, w34, w35, w36, w37, w38, w39, w40, w41, w42]))]) hx hb hE hP hD hS 4 rfl 397 (x_in (by decide)) (by decide) dX10_addClip_161 rfl (fun H locs hP hD hS => ?_)
  refine lv_aload_n hx hb dX10_addClip_162 rfl (lv_at hl 2 rfl) ?_
  refine gf_RX10_9 hx hb hown hE hP 5 rfl rfl dX10_addClip_163 ?_
  refine lv_sipush (v := 392) hx hb dX10_addClip_166 (by decide) ?_
  refine lv_dup2_11 hx hb dX10_addClip_169 rfl rfl ?_
  refine x_iald (v := 0) hx hb hE hP 4 rfl 392 (x_in (by decide)) (by decide) ((pk_un (by decide)).trans ((pk_un (by decide)).trans ((pk_un (by decide)).trans ((pk_un (by decide)).trans hf53)))) dX10_addClip_170 ?_
  refine lv_iconst (v := 1) hx hb dX10_addClip_171 (by decide) ?_
  refine x_iadd (v := 1) hx hb dX10_addClip_172 (by decide) ?_
  refine x_iast (ws' := [(q75, .inl (g.2 0, 3976, .inl f55)), (q58, .inl (g.2 0, 8, .inl f55)), (q57, .inl (g.2 0, 8, .inl f55)), (q54, .inl (g.2 0, 497, .inl (cpF 497 f52 f55))), (q51, .inl (g.2 0, 497, .inl (upd (upd (upd (upd (upd f52 393 x2) 395 x3) 396 x4) 397 x5) 392 1))), (q1, .inr (12, [.ref q51, w7, .ref q54, w9, .ref q75, .int 0, .int 0, .ref q57, .ref q58, w15, w16, w17, w18, w19, w20, w21, w22, w23, w24, w25, w26, w27, w28, w29, w30, w31, w32, w33, w34, w35, w36, w37, w38, w39, w40, w41, w42]))]) hx hb hE hP hD hS 4 rfl 392 (x_in (by decide)) (by decide) dX10_addClip_173 rfl (fun H locs hP hD hS => ?_)
  refine lv_aload_n hx hb dX10_addClip_174 rfl (lv_at hl 2 rfl) ?_
  refine g_i (wr := [(q75, .inl (g.2 0, 3976, .inl f55)), (q54, .inl (g.2 0, 497, .inl (cpF 497 f52 f55)))]) (rV (rest := []) hx hb hml hown hE hP hD 5 rfl rfl (c1514_X10_isTooGreat l g q1 q51 q57 q58 x3 w7 (.ref q54) w9 (.ref q75) (.int 0) (.int 0) w15 w16 w17 w18 w19 w20 w21 w22 w23 w24 w25 w26 w27 w28 w29 w30 w31 w32 w33 w34 w35 w36 w37 w38 w39 w40 w41 w42 (upd (upd (upd (upd (upd f52 393 x2) 395 x3) 396 x4) 397 x5) 392 1) f55 (((pk_un (by decide)).trans ((pk_un (by decide)).trans ((pk_un (by decide)).trans ((pk_un (by decide)).trans ((pk_un (by decide)).trans hf59)))))) (((pk_un (by decide)).trans ((pk_un (by decide)).trans ((pk_un (by decide)).trans ((pk_un (by decide)).trans ((pk_un (by decide)).trans hf60)))))) (((pk_un (by decide)).trans ((pk_un (by decide)).trans ((pk_un (by decide)).trans ((pk_un (by decide)).trans ((pk_un (by decide)).trans hf61)))))) (((pk_un (by decide)).trans ((pk_un (by decide)).trans ((pk_un (by decide)).trans ((pk_un (by decide)).trans ((pk_un (by decide)).trans hf62)))))) (((pk_un (by decide)).trans ((pk_un (by decide)).trans ((pk_un (by decide)).trans ((pk_un (by decide)).trans ((pk_un (by decide)).trans hf63)))))) (((pk_un (by decide)).trans ((pk_un (by decide)).trans ((pk_un (by decide)).trans ((pk_un (by decide)).trans ((pk_un (by decide)).trans hf64)))))) (((pk_un (by decide)).trans ((pk_un (by decide)).trans ((pk_un (by decide)).trans ((pk_un (by decide)).trans ((pk_un (by decide)).trans hf65)))))) (((pk_un (by decide)).trans ((pk_un (by decide)).trans ((pk_un (by decide)).trans ((pk_un (by decide)).trans ((pk_un (by decide)).trans hf66)))))) (hf67) (hf68) (hf69) (hf70) (hf71) (hf72) (hf73) (hf74) (pk_us) (((pk_un (by decide)).trans ((pk_un (by decide)).trans ((pk_un (by decide)).trans pk_us)))) (((pk_un (by decide)).trans ((pk_un (by decide)).trans ((pk_un (by decide)).trans ((pk_un (by decide)).trans ((pk_un (by decide)).trans hf56)))))) H.size) (kV_X10_isTooGreat hE (e1448 hE) rfl rfl ⟨(Nat.le_of_ble_eq_true rfl), (Nat.le_of_ble_eq_true rfl)⟩) [1, 2, 4, 5] rfl (by decide) rfl hl.1 rfl (lv_room (Nat.le_of_ble_eq_true rfl)) dX10_addClip_175 ⟨(Nat.le_of_ble_eq_true rfl), (Nat.le_of_ble_eq_true rfl)⟩) hP hD hS hA [1, 2, 4, 5] [0, 3] rfl rfl (by decide) (by decide) (fun u7 H locs hP hD hS => ?_)
  have hP : va_P g.1 vwCl [(q75, .inl (g.2 0, 3976, .inl f55)), (q54, .inl (g.2 0, 497, .inl (cpF 497 f52 f55))), (q58, .inl (g.2 0, 8, .inl f55)), (q57, .inl (g.2 0, 8, .inl f55)), (q51, .inl (g.2 0, 497, .inl (upd (upd (upd (upd (upd f52 393 x2) 395 x3) 396 x4) 397 x5) 392 1))), (q1, .inr (12, [.ref q51, w7, .ref q54, w9, .ref q75, .int 0, .int 0, .ref q57, .ref q58, w15, w16, w17, w18, w19, w20, w21, w22, w23, w24, w25, w26, w27, w28, w29, w30, w31, w32, w33, w34, w35, w36, w37, w38, w39, w40, w41, w42]))] H := hP
  have hD : va_D A [(q75, .inl (g.2 0, 3976, .inl f55)), (q54, .inl (g.2 0, 497, .inl (cpF 497 f52 f55))), (q58, .inl (g.2 0, 8, .inl f55)), (q57, .inl (g.2 0, 8, .inl f55)), (q51, .inl (g.2 0, 497, .inl (upd (upd (upd (upd (upd f52 393 x2) 395 x3) 396 x4) 397 x5) 392 1))), (q1, .inr (12, [.ref q51, w7, .ref q54, w9, .ref q75, .int 0, .int 0, .ref q57, .ref q58, w15, w16, w17, w18, w19, w20, w21, w22, w23, w24, w25, w26, w27, w28, w29, w30, w31, w32, w33, w34, w35, w36, w37, w38, w39, w40, w41, w42]))] := hD
  refine lv_if_eq (tgt := 191) hx hb dX10_addClip_178 (by decide) (fun _ => ?_) (fun h => absurd (by decide) h)
  refine lv_aload_n hx hb dX10_addClip_191 rfl (lv_at hl 2 rfl) ?_
  refine g_v (wr := [(q58, .inl (g.2 0, 8, .inl f55)), (q57, .inl (g.2 0, 8, .inl f55)), (q51, .inl (g.2 0, 497, .inl (upd (upd (upd (upd (upd f52 393 x2) 395 x3) 396 x4) 397 x5) 392 1)))]) (rV (rest := []) hx hb hml hown hE hP hD 5 rfl rfl (c220_X10_keep l g q1 q75 q54 (.ref q51) w7 w9 (.int 0) (.ref q57) (.ref q58) w15 w16 w17 w18 w19 w20 w21 w22 w23 w24 w25 w26 w27 w28 w29 w30 w31 w32 w33 w34 w35 w36 w37 w38 w39 w40 w41 w42 (cpF 497 f52 f55) f55 H.size) (kV_X10_keep hE (e1478 hE) rfl rfl ⟨(Nat.le_of_ble_eq_true rfl), (Nat.le_of_ble_eq_true rfl)⟩) [0, 1, 5] rfl (by decide) rfl hl.1 rfl (lv_room (Nat.le_of_ble_eq_true rfl)) dX10_addClip_192 ⟨(Nat.le_of_ble_eq_true rfl), (Nat.le_of_ble_eq_true rfl)⟩) hP hD hS hA [0, 1, 5] [2, 3, 4] rfl rfl (by decide) (by decide) (fun u8 H locs hP hD hS => ?_)
  have hP : va_P g.1 vwCl [(q58, .inl (g.2 0, 8, .inl f55)), (q57, .inl (g.2 0, 8, .inl f55)), (q51, .inl (g.2 0, 497, .inl (upd (upd (upd (upd (upd f52 393 x2) 395 x3) 396 x4) 397 x5) 392 1))), (q75, .inl (g.2 0, 3976, .inl (cpF 497 (cpF 497 f52 f55) f55))), (q54, .inl (g.2 0, 497, .inl (cpF 497 f52 f55))), (q1, .inr (12, [.ref q51, w7, .ref q54, w9, .ref q75, .int 1, .int 0, .ref q57, .ref q58, w15, w16, w17, w18, w19, w20, w21, w22, w23, w24, w25, w26, w27, w28, w29, w30, w31, w32, w33, w34, w35, w36, w37, w38, w39, w40, w41, w42]))] H := hP
  have hD : va_D A [(q58, .inl (g.2 0, 8, .inl f55)), (q57, .inl (g.2 0, 8, .inl f55)), (q51, .inl (g.2 0, 497, .inl (upd (upd (upd (upd (upd f52 393 x2) 395 x3) 396 x4) 397 x5) 392 1))), (q75, .inl (g.2 0, 3976, .inl (cpF 497 (cpF 497 f52 f55) f55))), (q54, .inl (g.2 0, 497, .inl (cpF 497 f52 f55))), (q1, .inr (12, [.ref q51, w7, .ref q54, w9, .ref q75, .int 1, .int 0, .ref q57, .ref q58, w15, w16, w17, w18, w19, w20, w21, w22, w23, w24, w25, w26, w27, w28, w29, w30, w31, w32, w33, w34, w35, w36, w37, w38, w39, w40, w41, w42]))] := hD
  refine lv_aload_n hx hb dX10_addClip_195 rfl (lv_at hl 2 rfl) ?_
  refine gf_RX10_9 hx hb hown hE hP 5 rfl rfl dX10_addClip_196 ?_
  refine lv_sipush (v := 392) hx hb dX10_addClip_199 (by decide) ?_
  refine x_iald (v := 1) hx hb hE hP 2 rfl 392 (x_in (by decide)) (by decide) pk_us dX10_addClip_202 ?_
  refine lv_iconst (v := 1) hx hb dX10_addClip_203 (by decide) ?_
  refine x_isub (v := 0) hx hb dX10_addClip_204 (by decide) ?_
  exact x_zret hx hb hr rfl rfl hlocks hP hD hS hAe hsz (Nat.le_of_ble_eq_true rfl) (Nat.le_of_ble_eq_true rfl) (fun _ => 0) [5] (by decide) rfl dX10_addClip_205

set_option maxHeartbeats 4000000 in
set_option maxRecDepth 100000 in
theorem c1516_X6_clipLength (l : Launch) (g : gG) (q1 q9 q13 q17 : Nat) (x12 : Int32) (w3 w5 w6 w7 w8 w15 : Value) (f10 : Nat → Int32) (f18 : Nat → Int32) (hf11 : f10 2 = x12) (hf14 : f10 1 = 1) (hf19 : f18 6 = 0) (sz : Nat) : Met l yX6_clipLength [Cond.code yX6_clipLength cX6_clipLength 2 (some .int)] ({ frames := 1, cells := 0, slots := 0, locals := 23 } : Room) (va_Pc [.ref q1, .int 0] (PX g sz [(q17, .inl (g.2 0, 40, .inl f18)), (q13, .inr (5, [w15, .ref q17])), (q9, .inl (g.2 0, 60, .inl f10)), (q1, .inr (8, [.ref q13, w3, .ref q9, w5, w6, w7, w8]))])) (QI g [(q17, .inl (g.2 0, 40, .inl f18)), (q13, .inr (5, [w15, .ref q17])), (q9, .inl (g.2 0, 60, .inl f10)), (q1, .inr (8, [.ref q13, w3, .ref q9, w5, w6, w7, w8]))] sz 0 (fun _ => [(q9, .inl (g.2 0, 60, .inl f10)), (q1, .inr (8, [.ref q13, w3, .ref q9, w5, w6, w7, w8])), (q17, .inl (g.2 0, 40, .inl f18)), (q13, .inr (5, [w15, .ref q17]))])) 0 0 (va_A [(q17, .inl (g.2 0, 40, .inl f18)), (q13, .inr (5, [w15, .ref q17])), (q9, .inl (g.2 0, 60, .inl f10)), (q1, .inr (8, [.ref q13, w3, .ref q9, w5, w6, w7, w8]))] sz) := by
  refine ofN (by decide) (Nat.le_of_ble_eq_true rfl) rfl ?_
  intro p e s m args below meth c A ls hAe hsz hx hb hml hr hlocks hin hown hE hP hD hA hS hl
  have hown : s.vm.findClass RX6 = some m.cls := hown
  refine lv_aload_n hx hb dX6_clipLength_0 rfl (lv_at hl 0 rfl) ?_
  refine lv_iload_n hx hb dX6_clipLength_1 rfl (lv_at hl 1 rfl) ?_
  refine lv_iconst (v := 2) hx hb dX6_clipLength_2 (by decide) ?_
  refine g_i (wr := [(q17, .inl (g.2 0, 40, .inl f18)), (q13, .inr (5, [w15, .ref q17]))]) (rV (rest := []) hx hb hml hown hE hP hD 3 rfl rfl (c1503_X6_clipNumber l g q1 q9 x12 (.ref q13) w3 w5 w6 w7 w8 f10 (hf11) s.heap.size) (kV_X6_clipNumber hE (e711 hE) rfl rfl ⟨(Nat.le_of_ble_eq_true rfl), (Nat.le_of_ble_eq_true rfl)⟩) [2, 3] rfl (by decide) rfl hl.1 rfl (lv_room (Nat.le_of_ble_eq_true rfl)) dX6_clipLength_3 ⟨(Nat.le_of_ble_eq_true rfl), (Nat.le_of_ble_eq_true rfl)⟩) hP hD hS hA [2, 3] [0, 1] rfl rfl (by decide) (by decide) (fun u1 H locs hP hD hS => ?_)
  have hP : va_P g.1 vwCl [(q17, .inl (g.2 0, 40, .inl f18)), (q13, .inr (5, [w15, .ref q17])), (q9, .inl (g.2 0, 60, .inl f10)), (q1, .inr (8, [.ref q13, w3, .ref q9, w5, w6, w7, w8]))] H := hP
  have hD : va_D A [(q17, .inl (g.2 0, 40, .inl f18)), (q13, .inr (5, [w15, .ref q17])), (q9, .inl (g.2 0, 60, .inl f10)), (q1, .inr (8, [.ref q13, w3, .ref q9, w5, w6, w7, w8]))] := hD
  refine lv_aload_n hx hb dX6_clipLength_6 rfl (lv_at hl 0 rfl) ?_
  refine gf_RX6_12 hx hb hown hE hP 3 rfl rfl dX6_clipLength_7 ?_
  refine lv_aload_n hx hb dX6_clipLength_10 rfl (lv_at hl 0 rfl) ?_
  refine lv_iload_n hx hb dX6_clipLength_11 rfl (lv_at hl 1 rfl) ?_
  refine lv_iconst (v := 1) hx hb dX6_clipLength_12 (by decide) ?_
  refine g_i (wr := [(q17, .inl (g.2 0, 40, .inl f18)), (q13, .inr (5, [w15, .ref q17]))]) (rV (rest := [.ref q13, .int x12]) hx hb hml hown hE hP hD 3 rfl rfl (c1504_X6_clipNumber l g q1 q9 1 (.ref q13) w3 w5 w6 w7 w8 f10 (hf14) H.size) (kV_X6_clipNumber hE (e711 hE) rfl rfl ⟨(Nat.le_of_ble_eq_true rfl), (Nat.le_of_ble_eq_true rfl)⟩) [2, 3] rfl (by decide) rfl hl.1 rfl (lv_room (Nat.le_of_ble_eq_true rfl)) dX6_clipLength_13 ⟨(Nat.le_of_ble_eq_true rfl), (Nat.le_of_ble_eq_true rfl)⟩) hP hD hS hA [2, 3] [0, 1] rfl rfl (by decide) (by decide) (fun u2 H locs hP hD hS => ?_)
  have hP : va_P g.1 vwCl [(q17, .inl (g.2 0, 40, .inl f18)), (q13, .inr (5, [w15, .ref q17])), (q9, .inl (g.2 0, 60, .inl f10)), (q1, .inr (8, [.ref q13, w3, .ref q9, w5, w6, w7, w8]))] H := hP
  have hD : va_D A [(q17, .inl (g.2 0, 40, .inl f18)), (q13, .inr (5, [w15, .ref q17])), (q9, .inl (g.2 0, 60, .inl f10)), (q1, .inr (8, [.ref q13, w3, .ref q9, w5, w6, w7, w8]))] := hD
  refine lv_iconst (v := 1) hx hb dX6_clipLength_16 (by decide) ?_
  refine g_i (wr := [(q9, .inl (g.2 0, 60, .inl f10)), (q1, .inr (8, [.ref q13, w3, .ref q9, w5, w6, w7, w8]))]) (rV (rest := [.int x12]) hx hb hml hown hE hP hD 1 rfl rfl (c151_X3_figure l g q13 q17 w15 f18 (hf19) H.size) (kV_X3_figure hE (e712 hE) rfl rfl ⟨(Nat.le_of_ble_eq_true rfl), (Nat.le_of_ble_eq_true rfl)⟩) [0, 1] rfl (by decide) rfl hl.1 rfl (lv_room (Nat.le_of_ble_eq_true rfl)) dX6_clipLength_17 ⟨(Nat.le_of_ble_eq_true rfl), (Nat.le_of_ble_eq_true rfl)⟩) hP hD hS hA [0, 1] [2, 3] rfl rfl (by decide) (by decide) (fun u3 H locs hP hD hS => ?_)
  have hP : va_P g.1 vwCl [(q9, .inl (g.2 0, 60, .inl f10)), (q1, .inr (8, [.ref q13, w3, .ref q9, w5, w6, w7, w8])), (q17, .inl (g.2 0, 40, .inl f18)), (q13, .inr (5, [w15, .ref q17]))] H := hP
  have hD : va_D A [(q9, .inl (g.2 0, 60, .inl f10)), (q1, .inr (8, [.ref q13, w3, .ref q9, w5, w6, w7, w8])), (q17, .inl (g.2 0, 40, .inl f18)), (q13, .inr (5, [w15, .ref q17]))] := hD
  refine x_imul (v := 0) hx hb dX6_clipLength_20 (Int32.mul_zero) ?_
  exact x_zret hx hb hr rfl rfl hlocks hP hD hS hAe hsz (Nat.le_of_ble_eq_true rfl) (Nat.le_of_ble_eq_true rfl) (fun _ => 0) [0, 1, 2, 3] (by decide) rfl dX6_clipLength_21

set_option maxHeartbeats 4000000 in
set_option maxRecDepth 100000 in
theorem c1517_X6_clipNotes (l : Launch) (g : gG) (q1 q9 q13 q17 : Nat) (x12 : Int32) (w3 w5 w6 w7 w8 w15 : Value) (f10 : Nat → Int32) (f18 : Nat → Int32) (hf11 : f10 2 = x12) (hf14 : f10 1 = 1) (hf19 : f18 7 = 0) (sz : Nat) : Met l yX6_clipNotes [Cond.code yX6_clipNotes cX6_clipNotes 2 (some .int)] ({ frames := 1, cells := 0, slots := 0, locals := 23 } : Room) (va_Pc [.ref q1, .int 0] (PX g sz [(q17, .inl (g.2 0, 40, .inl f18)), (q13, .inr (5, [w15, .ref q17])), (q9, .inl (g.2 0, 60, .inl f10)), (q1, .inr (8, [.ref q13, w3, .ref q9, w5, w6, w7, w8]))])) (QI g [(q17, .inl (g.2 0, 40, .inl f18)), (q13, .inr (5, [w15, .ref q17])), (q9, .inl (g.2 0, 60, .inl f10)), (q1, .inr (8, [.ref q13, w3, .ref q9, w5, w6, w7, w8]))] sz 0 (fun _ => [(q9, .inl (g.2 0, 60, .inl f10)), (q1, .inr (8, [.ref q13, w3, .ref q9, w5, w6, w7, w8])), (q17, .inl (g.2 0, 40, .inl f18)), (q13, .inr (5, [w15, .ref q17]))])) 0 0 (va_A [(q17, .inl (g.2 0, 40, .inl f18)), (q13, .inr (5, [w15, .ref q17])), (q9, .inl (g.2 0, 60, .inl f10)), (q1, .inr (8, [.ref q13, w3, .ref q9, w5, w6, w7, w8]))] sz) := by
  refine ofN (by decide) (Nat.le_of_ble_eq_true rfl) rfl ?_
  intro p e s m args below meth c A ls hAe hsz hx hb hml hr hlocks hin hown hE hP hD hA hS hl
  have hown : s.vm.findClass RX6 = some m.cls := hown
  refine lv_aload_n hx hb dX6_clipNotes_0 rfl (lv_at hl 0 rfl) ?_
  refine lv_iload_n hx hb dX6_clipNotes_1 rfl (lv_at hl 1 rfl) ?_
  refine lv_iconst (v := 2) hx hb dX6_clipNotes_2 (by decide) ?_
  refine g_i (wr := [(q17, .inl (g.2 0, 40, .inl f18)), (q13, .inr (5, [w15, .ref q17]))]) (rV (rest := []) hx hb hml hown hE hP hD 3 rfl rfl (c1503_X6_clipNumber l g q1 q9 x12 (.ref q13) w3 w5 w6 w7 w8 f10 (hf11) s.heap.size) (kV_X6_clipNumber hE (e711 hE) rfl rfl ⟨(Nat.le_of_ble_eq_true rfl), (Nat.le_of_ble_eq_true rfl)⟩) [2, 3] rfl (by decide) rfl hl.1 rfl (lv_room (Nat.le_of_ble_eq_true rfl)) dX6_clipNotes_3 ⟨(Nat.le_of_ble_eq_true rfl), (Nat.le_of_ble_eq_true rfl)⟩) hP hD hS hA [2, 3] [0, 1] rfl rfl (by decide) (by decide) (fun u1 H locs hP hD hS => ?_)
  have hP : va_P g.1 vwCl [(q17, .inl (g.2 0, 40, .inl f18)), (q13, .inr (5, [w15, .ref q17])), (q9, .inl (g.2 0, 60, .inl f10)), (q1, .inr (8, [.ref q13, w3, .ref q9, w5, w6, w7, w8]))] H := hP
  have hD : va_D A [(q17, .inl (g.2 0, 40, .inl f18)), (q13, .inr (5, [w15, .ref q17])), (q9, .inl (g.2 0, 60, .inl f10)), (q1, .inr (8, [.ref q13, w3, .ref q9, w5, w6, w7, w8]))] := hD
  refine lv_aload_n hx hb dX6_clipNotes_6 rfl (lv_at hl 0 rfl) ?_
  refine gf_RX6_12 hx hb hown hE hP 3 rfl rfl dX6_clipNotes_7 ?_
  refine lv_aload_n hx hb dX6_clipNotes_10 rfl (lv_at hl 0 rfl) ?_
  refine lv_iload_n hx hb dX6_clipNotes_11 rfl (lv_at hl 1 rfl) ?_
  refine lv_iconst (v := 1) hx hb dX6_clipNotes_12 (by decide) ?_
  refine g_i (wr := [(q17, .inl (g.2 0, 40, .inl f18)), (q13, .inr (5, [w15, .ref q17]))]) (rV (rest := [.ref q13, .int x12]) hx hb hml hown hE hP hD 3 rfl rfl (c1504_X6_clipNumber l g q1 q9 1 (.ref q13) w3 w5 w6 w7 w8 f10 (hf14) H.size) (kV_X6_clipNumber hE (e711 hE) rfl rfl ⟨(Nat.le_of_ble_eq_true rfl), (Nat.le_of_ble_eq_true rfl)⟩) [2, 3] rfl (by decide) rfl hl.1 rfl (lv_room (Nat.le_of_ble_eq_true rfl)) dX6_clipNotes_13 ⟨(Nat.le_of_ble_eq_true rfl), (Nat.le_of_ble_eq_true rfl)⟩) hP hD hS hA [2, 3] [0, 1] rfl rfl (by decide) (by decide) (fun u2 H locs hP hD hS => ?_)
  have hP : va_P g.1 vwCl [(q17, .inl (g.2 0, 40, .inl f18)), (q13, .inr (5, [w15, .ref q17])), (q9, .inl (g.2 0, 60, .inl f10)), (q1, .inr (8, [.ref q13, w3, .ref q9, w5, w6, w7, w8]))] H := hP
  have hD : va_D A [(q17, .inl (g.2 0, 40, .inl f18)), (q13, .inr (5, [w15, .ref q17])), (q9, .inl (g.2 0, 60, .inl f10)), (q1, .inr (8, [.ref q13, w3, .ref q9, w5, w6, w7, w8]))] := hD
  refine lv_iconst (v := 2) hx hb dX6_clipNotes_16 (by decide) ?_
  refine g_i (wr := [(q9, .inl (g.2 0, 60, .inl f10)), (q1, .inr (8, [.ref q13, w3, .ref q9, w5, w6, w7, w8]))]) (rV (rest := [.int x12]) hx hb hml hown hE hP hD 1 rfl rfl (c729_X3_figure l g q13 q17 w15 f18 (hf19) H.size) (kV_X3_figure hE (e712 hE) rfl rfl ⟨(Nat.le_of_ble_eq_true rfl), (Nat.le_of_ble_eq_true rfl)⟩) [0, 1] rfl (by decide) rfl hl.1 rfl (lv_room (Nat.le_of_ble_eq_true rfl)) dX6_clipNotes_17 ⟨(Nat.le_of_ble_eq_true rfl), (Nat.le_of_ble_eq_true rfl)⟩) hP hD hS hA [0, 1] [2, 3] rfl rfl (by decide) (by decide) (fun u3 H locs hP hD hS => ?_)
  have hP : va_P g.1 vwCl [(q9, .inl (g.2 0, 60, .inl f10)), (q1, .inr (8, [.ref q13, w3, .ref q9, w5, w6, w7, w8])), (q17, .inl (g.2 0, 40, .inl f18)), (q13, .inr (5, [w15, .ref q17]))] H := hP
  have hD : va_D A [(q9, .inl (g.2 0, 60, .inl f10)), (q1, .inr (8, [.ref q13, w3, .ref q9, w5, w6, w7, w8])), (q17, .inl (g.2 0, 40, .inl f18)), (q13, .inr (5, [w15, .ref q17]))] := hD
  refine x_imul (v := 0) hx hb dX6_clipNotes_20 (Int32.mul_zero) ?_
  exact x_zret hx hb hr rfl rfl hlocks hP hD hS hAe hsz (Nat.le_of_ble_eq_true rfl) (Nat.le_of_ble_eq_true rfl) (fun _ => 0) [0, 1, 2, 3] (by decide) rfl dX6_clipNotes_21

set_option maxHeartbeats 4000000 in
set_option maxRecDepth 100000 in
theorem c1518_X6_hasFittingClips (l : Launch) (g : gG) (q1 q9 q10 q17 : Nat) (x13 : Int32) (w3 w5 w7 w8 w15 : Value) (f11 : Nat → Int32) (f18 : Nat → Int32) (hf12 : f11 2 = x13) (hf14 : f11 1 = 1) (hf19 : f18 6 = 0) (hf20 : f18 7 = 0) (sz : Nat) : Met l yX6_hasFittingClips [Cond.code yX6_hasFittingClips cX6_hasFittingClips 3 (some .boolean)] ({ frames := 2, cells := 0, slots := 0, locals := 44 } : Room) (va_Pc [.ref q1] (PX g sz [(q17, .inl (g.2 0, 40, .inl f18)), (q9, .inr (5, [w15, .ref q17])), (q10, .inl (g.2 0, 60, .inl f11)), (q1, .inr (8, [.ref q9, w3, .ref q10, w5, .int 1, w7, w8]))])) (QI g [(q17, .inl (g.2 0, 40, .inl f18)), (q9, .inr (5, [w15, .ref q17])), (q10, .inl (g.2 0, 60, .inl f11)), (q1, .inr (8, [.ref q9, w3, .ref q10, w5, .int 1, w7, w8]))] sz 1 (fun _ => [(q10, .inl (g.2 0, 60, .inl f11)), (q1, .inr (8, [.ref q9, w3, .ref q10, w5, .int 1, w7, w8])), (q17, .inl (g.2 0, 40, .inl f18)), (q9, .inr (5, [w15, .ref q17]))])) 0 0 (va_A [(q17, .inl (g.2 0, 40, .inl f18)), (q9, .inr (5, [w15, .ref q17])), (q10, .inl (g.2 0, 60, .inl f11)), (q1, .inr (8, [.ref q9, w3, .ref q10, w5, .int 1, w7, w8]))] sz) := by
  refine ofN (by decide) (Nat.le_of_ble_eq_true rfl) rfl ?_
  intro p e s m args below meth c A ls hAe hsz hx hb hml hr hlocks hin hown hE hP hD hA hS hl
  have hown : s.vm.findClass RX6 = some m.cls := hown
  refine lv_iconst (v := 0) hx hb dX6_hasFittingClips_0 (by decide) ?_
  refine lv_istore_n (lv' := [(1, .int 0), (0, .ref q1)]) hx hb dX6_hasFittingClips_1 rfl hl (by decide) rfl (fun ls hl => ?_)
  refine lv_iconst (v := 0) hx hb dX6_hasFittingClips_2 (by decide) ?_
  refine lv_istore_n (lv' := [(2, .int 0), (1, .int 0), (0, .ref q1)]) hx hb dX6_hasFittingClips_3 rfl hl (by decide) rfl (fun ls hl => ?_)
  refine lv_iload_n hx hb dX6_hasFittingClips_4 rfl (lv_at hl 0 rfl) ?_
  refine lv_aload_n hx hb dX6_hasFittingClips_5 rfl (lv_at hl 2 rfl) ?_
  refine gf_RX6_37 hx hb hown hE hP 3 rfl rfl dX6_hasFittingClips_6 ?_
  refine lv_icmp_ge (tgt := 39) hx hb dX6_hasFittingClips_9 (by decide) (fun h => absurd h (by decide)) (fun _ => ?_)
  refine lv_aload_n hx hb dX6_hasFittingClips_12 rfl (lv_at hl 2 rfl) ?_
  refine lv_iload_n hx hb dX6_hasFittingClips_13 rfl (lv_at hl 0 rfl) ?_
  refine g_i (wr := []) (rV (rest := []) hx hb hml hown hE hP hD 3 rfl rfl (c1516_X6_clipLength l g q1 q10 q9 q17 x13 w3 w5 (.int 1) w7 w8 w15 f11 f18 (hf12) (hf14) (hf19) s.heap.size) (kV_X6_clipLength hE (e707 hE) rfl rfl ⟨(Nat.le_of_ble_eq_true rfl), (Nat.le_of_ble_eq_true rfl)⟩) [0, 1, 2, 3] rfl (by decide) rfl hl.1 rfl (lv_room (Nat.le_of_ble_eq_true rfl)) dX6_hasFittingClips_14 ⟨(Nat.le_of_ble_eq_true rfl), (Nat.le_of_ble_eq_true rfl)⟩) hP hD hS hA [0, 1, 2, 3] [] rfl rfl (by decide) (by decide) (fun u1 H locs hP hD hS => ?_)
  have hP : va_P g.1 vwCl [(q10, .inl (g.2 0, 60, .inl f11)), (q1, .inr (8, [.ref q9, w3, .ref q10, w5, .int 1, w7, w8])), (q17, .inl (g.2 0, 40, .inl f18)), (q9, .inr (5, [w15, .ref q17]))] H := hP
  have hD : va_D A [(q10, .inl (g.2 0, 60, .inl f11)), (q1, .inr (8, [.ref q9, w3, .ref q10, w5, .int 1, w7, w8])), (q17, .inl (g.2 0, 40, .inl f18)), (q9, .inr (5, [w15, .ref q17]))] := hD
  refine lv_sipush (v := 20000) hx hb dX6_hasFittingClips_17 (by decide) ?_
  refine lv_icmp_le (tgt := 25) hx hb dX6_hasFittingClips_20 (by decide) (fun _ => ?_) (fun h => absurd (by decide) h)
  refine lv_iload_n hx hb dX6_hasFittingClips_25 rfl (lv_at hl 1 rfl) ?_
  refine lv_aload_n hx hb dX6_hasFittingClips_26 rfl (lv_at hl 2 rfl) ?_
  refine lv_iload_n hx hb dX6_hasFittingClips_27 rfl (lv_at hl 0 rfl) ?_
  refine g_i (wr := []) (rV (rest := [.int 0]) hx hb hml hown hE hP hD 1 rfl rfl (c1517_X6_clipNotes l g q1 q10 q9 q17 x13 w3 w5 (.int 1) w7 w8 w15 f11 f18 (hf12) (hf14) (hf20) H.size) (kV_X6_clipNotes hE (e713 hE) rfl rfl ⟨(Nat.le_of_ble_eq_true rfl), (Nat.le_of_ble_eq_true rfl)⟩) [2, 3, 0, 1] rfl (by decide) rfl hl.1 rfl (lv_room (Nat.le_of_ble_eq_true rfl)) dX6_hasFittingClips_28 ⟨(Nat.le_of_ble_eq_true rfl), (Nat.le_of_ble_eq_true rfl)⟩) hP hD hS hA [2, 3, 0, 1] [] rfl rfl (by decide) (by decide) (fun u2 H locs hP hD hS => ?_)
  have hP : va_P g.1 vwCl [(q10, .inl (g.2 0, 60, .inl f11)), (q1, .inr (8, [.ref q9, w3, .ref q10, w5, .int 1, w7, w8])), (q17, .inl (g.2 0, 40, .inl f18)), (q9, .inr (5, [w15, .ref q17]))] H := hP
  have hD : va_D A [(q10, .inl (g.2 0, 60, .inl f11)), (q1, .inr (8, [.ref q9, w3, .ref q10, w5, .int 1, w7, w8])), (q17, .inl (g.2 0, 40, .inl f18)), (q9, .inr (5, [w15, .ref q17]))] := hD
  refine x_iadd (v := 0) hx hb dX6_hasFittingClips_31 (by decide) ?_
  refine lv_istore_n (lv' := [(1, .int 0), (2, .int 0), (0, .ref q1)]) hx hb dX6_hasFittingClips_32 rfl hl (by decide) rfl (fun ls hl => ?_)
  refine lv_iinc (v := 1) (lv' := [(2, .int 1), (1, .int 0), (0, .ref q1)]) hx hb dX6_hasFittingClips_33 hl (k := 1) rfl (by decide) (by decide) rfl (fun ls hl => ?_)
  refine lv_goto (tgt := 4) hx hb dX6_hasFittingClips_36 (by decide) ?_
  refine lv_iload_n hx hb dX6_hasFittingClips_4 rfl (lv_at hl 0 rfl) ?_
  refine lv_aload_n hx hb dX6_hasFittingClips_5 rfl (lv_at hl 2 rfl) ?_
  refine gf_RX6_37 hx hb hown hE hP 1 rfl rfl dX6_hasFittingClips_6 ?_
  refine lv_icmp_ge (tgt := 39) hx hb dX6_hasFittingClips_9 (by decide) (fun _ => ?_) (fun h => absurd (by decide) h)
  refine lv_iload_n hx hb dX6_hasFittingClips_39 rfl (lv_at hl 1 rfl) ?_
  refine lv_sipush (v := 300) hx hb dX6_hasFittingClips_40 (by decide) ?_
  refine lv_icmp_gt (tgt := 50) hx hb dX6_hasFittingClips_43 (by decide) (fun h => absurd h (by decide)) (fun _ => ?_)
  refine lv_iconst (v := 1) hx hb dX6_hasFittingClips_46 (by decide) ?_
  refine lv_goto (tgt := 51) hx hb dX6_hasFittingClips_47 (by decide) ?_
  exact x_zret hx hb hr rfl rfl hlocks hP hD hS hAe hsz (Nat.le_of_ble_eq_true rfl) (Nat.le_of_ble_eq_true rfl) (fun _ => 0) [0, 1, 2, 3] (by decide) rfl dX6_hasFittingClips_51

set_option maxHeartbeats 4000000 in
set_option maxRecDepth 100000 in
theorem c1519_X9_acceptIfFitting (l : Launch) (g : gG) (q1 q2 q10 q13 q14 q47 q63 : Nat) (x50 : Int32) (w4 w6 w8 w9 w53 w54 w55 w56 w57 w58 w59 w60 w61 w62 w64 : Value) (f15 : Nat → Int32) (f48 : Nat → Int32) (hf16 : f15 0 = 0) (hf17 : f15 2 = 0) (hf18 : f15 3 = 0) (hf19 : f15 5 = 0) (hf20 : f15 6 = 0) (hf21 : f15 7 = 0) (hf22 : f15 8 = 0) (hf23 : f15 10 = 0) (hf24 : f15 11 = 0) (hf25 : f15 12 = 0) (hf26 : f15 13 = 0) (hf27 : f15 15 = 0) (hf28 : f15 16 = 0) (hf29 : f15 17 = 0) (hf30 : f15 18 = 0) (hf31 : f15 20 = 0) (hf32 : f15 21 = 0) (hf33 : f15 22 = 0) (hf34 : f15 23 = 0) (hf35 : f15 25 = 0) (hf36 : f15 26 = 0) (hf37 : f15 27 = 0) (hf38 : f15 28 = 0) (hf39 : f15 30 = 0) (hf40 : f15 31 = 0) (hf41 : f15 32 = 0) (hf42 : f15 33 = 0) (hf43 : f15 35 = 0) (hf44 : f15 36 = 0) (hf45 : f15 37 = 0) (hf46 : f15 38 = 0) (hf49 : f48 2 = x50) (hf51 : f48 1 = 1) (sz : Nat) : Met l yX9_acceptIfFitting [Cond.code yX9_acceptIfFitting cX9_acceptIfFitting 2 none] ({ frames := 3, cells := 0, slots := 0, locals := 73 } : Room) (va_Pc [.ref q1, .ref q2] (PX g sz [(q63, .inr (10, [w64, .int 0, .int 0])), (q1, .inr (11, [.ref q63, w53, w54, w55, w56, w57, w58, w59, w60, w61, w62])), (q47, .inl (g.2 0, 60, .inl f48)), (q14, .inl (g.2 0, 40, .inl f15)), (q10, .inr (5, [.ref q13, .ref q14])), (q2, .inr (8, [.ref q10, w4, .ref q47, w6, .int 1, w8, w9]))])) (QV g [(q63, .inr (10, [w64, .int 0, .int 0])), (q1, .inr (11, [.ref q63, w53, w54, w55, w56, w57, w58, w59, w60, w61, w62])), (q47, .inl (g.2 0, 60, .inl f48)), (q14, .inl (g.2 0, 40, .inl f15)), (q10, .inr (5, [.ref q13, .ref q14])), (q2, .inr (8, [.ref q10, w4, .ref q47, w6, .int 1, w8, w9]))] sz (fun _ => [(q47, .inl (g.2 0, 60, .inl f48)), (q2, .inr (8, [.ref q10, w4, .ref q47, w6, .int 1, w8, w9])), (q14, .inl (g.2 0, 40, .inl (upd (upd (upd (upd (upd (upd (upd (upd (upd f15 1 0) 4 1) 9 1) 14 1) 19 1) 24 1) 29 1) 34 1) 39 1))), (q10, .inr (5, [.ref q13, .ref q14])), (q63, .inr (10, [w64, .int 1, .int 1])), (q1, .inr (11, [.ref q63, w53, w54, w55, w56, w57, w58, w59, .int 0, .int 0, w62]))])) 0 0 (va_A [(q63, .inr (10, [w64, .int 0, .int 0])), (q1, .inr (11, [.ref q63, w53, w54, w55, w56, w57, w58, w59, w60, w61, w62])), (q47, .inl (g.2 0, 60, .inl f48)), (q14, .inl (g.2 0, 40, .inl f15)), (q10, .inr (5, [.ref q13, .ref q14])), (q2, .inr (8, [.ref q10, w4, .ref q47, w6, .int 1, w8, w9]))] sz) := by
  refine ofN (by decide) (Nat.le_of_ble_eq_true rfl) rfl ?_
  intro p e s m args below meth c A ls hAe hsz hx hb hml hr hlocks hin hown hE hP hD hA hS hl
  have hown : s.vm.findClass RX9 = some m.cls := hown
  refine lv_aload_n hx hb dX9_acceptIfFitting_0 rfl (lv_at hl 1 rfl) ?_
  refine gf_RX9_108 hx hb hown hE hP 5 rfl rfl dX9_acceptIfFitting_1 ?_
  refine g_i (wr := [(q63, .inr (10, [w64, .int 0, .int 0])), (q1, .inr (11, [.ref q63, w53, w54, w55, w56, w57, w58, w59, w60, w61, w62])), (q47, .inl (g.2 0, 60, .inl f48)), (q2, .inr (8, [.ref q10, w4, .ref q47, w6, .int 1, w8, w9]))]) (rV (rest := []) hx hb hml hown hE hP hD 4 rfl rfl (c1502_X3_measure l g q10 q13 q14 f15 (hf16) (hf17) (hf18) (hf19) (hf20) (hf21) (hf22) (hf23) (hf24) (hf25) (hf26) (hf27) (hf28) (hf29) (hf30) (hf31) (hf32) (hf33) (hf34) (hf35) (hf36) (hf37) (hf38) (hf39) (hf40) (hf41) (hf42) (hf43) (hf44) (hf45) (hf46) s.heap.size) (kV_X3_measure hE (e694 hE) rfl rfl ⟨(Nat.le_of_ble_eq_true rfl), (Nat.le_of_ble_eq_true rfl)⟩) [3, 4] rfl (by decide) rfl hl.1 rfl (lv_room (Nat.le_of_ble_eq_true rfl)) dX9_acceptIfFitting_4 ⟨(Nat.le_of_ble_eq_true rfl), (Nat.le_of_ble_eq_true rfl)⟩) hP hD hS hA [3, 4] [0, 1, 2, 5] rfl rfl (by decide) (by decide) (fun u1 H locs hP hD hS => ?_)
  have hP : va_P g.1 vwCl [(q63, .inr (10, [w64, .int 0, .int 0])), (q1, .inr (11, [.ref q63, w53, w54, w55, w56, w57, w58, w59, w60, w61, w62])), (q47, .inl (g.2 0, 60, .inl f48)), (q2, .inr (8, [.ref q10, w4, .ref q47, w6, .int 1, w8, w9])), (q14, .inl (g.2 0, 40, .inl (upd (upd (upd (upd (upd (upd (upd (upd (upd f15 1 0) 4 1) 9 1) 14 1) 19 1) 24 1) 29 1) 34 1) 39 1))), (q10, .inr (5, [.ref q13, .ref q14]))] H := hP
  have hD : va_D A [(q63, .inr (10, [w64, .int 0, .int 0])), (q1, .inr (11, [.ref q63, w53, w54, w55, w56, w57, w58, w59, w60, w61, w62])), (q47, .inl (g.2 0, 60, .inl f48)), (q2, .inr (8, [.ref q10, w4, .ref q47, w6, .int 1, w8, w9])), (q14, .inl (g.2 0, 40, .inl (upd (upd (upd (upd (upd (upd (upd (upd (upd f15 1 0) 4 1) 9 1) 14 1) 19 1) 24 1) 29 1) 34 1) 39 1))), (q10, .inr (5, [.ref q13, .ref q14]))] := hD
  refine lv_if_eq (tgt := 17) hx hb dX9_acceptIfFitting_7 (by decide) (fun h => absurd h (by decide)) (fun _ => ?_)
  refine lv_aload_n hx hb dX9_acceptIfFitting_10 rfl (lv_at hl 1 rfl) ?_
  refine g_i (wr := [(q63, .inr (10, [w64, .int 0, .int 0])), (q1, .inr (11, [.ref q63, w53, w54, w55, w56, w57, w58, w59, w60, w61, w62]))]) (rV (rest := []) hx hb hml hown hE hP hD 3 rfl rfl (c1518_X6_hasFittingClips l g q2 q10 q47 q14 x50 w4 w6 w8 w9 (.ref q13) f48 (upd (upd (upd (upd (upd (upd (upd (upd (upd f15 1 0) 4 1) 9 1) 14 1) 19 1) 24 1) 29 1) 34 1) 39 1) (hf49) (hf51) (((pk_un (by decide)).trans ((pk_un (by decide)).trans ((pk_un (by decide)).trans ((pk_un (by decide)).trans ((pk_un (by decide)).trans ((pk_un (by decide)).trans ((pk_un (by decide)).trans ((pk_un (by decide)).trans ((pk_un (by decide)).trans hf20)))))))))) (((pk_un (by decide)).trans ((pk_un (by decide)).trans ((pk_un (by decide)).trans ((pk_un (by decide)).trans ((pk_un (by decide)).trans ((pk_un (by decide)).trans ((pk_un (by decide)).trans ((pk_un (by decide)).trans ((pk_un (by decide)).trans hf21)))))))))) H.size) (kV_X6_hasFittingClips hE (e703 hE) rfl rfl ⟨(Nat.le_of_ble_eq_true rfl), (Nat.le_of_ble_eq_true rfl)⟩) [4, 5, 2, 3] rfl (by decide) rfl hl.1 rfl (lv_room (Nat.le_of_ble_eq_true rfl)) dX9_acceptIfFitting_11 ⟨(Nat.le_of_ble_eq_true rfl), (Nat.le_of_ble_eq_true rfl)⟩) hP hD hS hA [4, 5, 2, 3] [0, 1] rfl rfl (by decide) (by decide) (fun u2 H locs hP hD hS => ?_)
  have hP : va_P g.1 vwCl [(q63, .inr (10, [w64, .int 0, .int 0])), (q1, .inr (11, [.ref q63, w53, w54, w55, w56, w57, w58, w59, w60, w61, w62])), (q47, .inl (g.2 0, 60, .inl f48)), (q2, .inr (8, [.ref q10, w4, .ref q47, w6, .int 1, w8, w9])), (q14, .inl (g.2 0, 40, .inl (upd (upd (upd (upd (upd (upd (upd (upd (upd f15 1 0) 4 1) 9 1) 14 1) 19 1) 24 1) 29 1) 34 1) 39 1))), (q10, .inr (5, [.ref q13, .ref q14]))] H := hP
  have hD : va_D A [(q63, .inr (10, [w64, .int 0, .int 0])), (q1, .inr (11, [.ref q63, w53, w54, w55, w56, w57, w58, w59, w60, w61, w62])), (q47, .inl (g.2 0, 60, .inl f48)), (q2, .inr (8, [.ref q10, w4, .ref q47, w6, .int 1, w8, w9])), (q14, .inl (g.2 0, 40, .inl (upd (upd (upd (upd (upd (upd (upd (upd (upd f15 1 0) 4 1) 9 1) 14 1) 19 1) 24 1) 29 1) 34 1) 39 1))), (q10, .inr (5, [.ref q13, .ref q14]))] := hD
  refine lv_if_ne (tgt := 28) hx hb dX9_acceptIfFitting_14 (by decide) (fun _ => ?_) (fun h => absurd h (by decide))
  refine lv_aload_n hx hb dX9_acceptIfFitting_28 rfl (lv_at hl 0 rfl) ?_
  refine g_v (wr := [(q47, .inl (g.2 0, 60, .inl f48)), (q2, .inr (8, [.ref q10, w4, .ref q47, w6, .int 1, w8, w9])), (q14, .inl (g.2 0, 40, .inl (upd (upd (upd (upd (upd (upd (upd (upd (upd f15 1 0) 4 1) 9 1) 14 1) 19 1) 24 1) 29 1) 34 1) 39 1))), (q10, .inr (5, [.ref q13, .ref q14]))]) (rV (rest := []) hx hb hml hown hE hP hD 1 rfl rfl (c191_X9_accept l g q1 q63 w53 w54 w55 w56 w57 w58 w59 w60 w61 w62 w64 H.size) (kV_X9_accept hE (e718 hE) rfl rfl ⟨(Nat.le_of_ble_eq_true rfl), (Nat.le_of_ble_eq_true rfl)⟩) [0, 1] rfl (by decide) rfl hl.1 rfl (lv_room (Nat.le_of_ble_eq_true rfl)) dX9_acceptIfFitting_29 ⟨(Nat.le_of_ble_eq_true rfl), (Nat.le_of_ble_eq_true rfl)⟩) hP hD hS hA [0, 1] [2, 3, 4, 5] rfl rfl (by decide) (by decide) (fun u3 H locs hP hD hS => ?_)
  have hP : va_P g.1 vwCl [(q47, .inl (g.2 0, 60, .inl f48)), (q2, .inr (8, [.ref q10, w4, .ref q47, w6, .int 1, w8, w9])), (q14, .inl (g.2 0, 40, .inl (upd (upd (upd (upd (upd (upd (upd (upd (upd f15 1 0) 4 1) 9 1) 14 1) 19 1) 24 1) 29 1) 34 1) 39 1))), (q10, .inr (5, [.ref q13, .ref q14])), (q63, .inr (10, [w64, .int 1, .int 1])), (q1, .inr (11, [.ref q63, w53, w54, w55, w56, w57, w58, w59, .int 0, .int 0, w62]))] H := hP
  have hD : va_D A [(q47, .inl (g.2 0, 60, .inl f48)), (q2, .inr (8, [.ref q10, w4, .ref q47, w6, .int 1, w8, w9])), (q14, .inl (g.2 0, 40, .inl (upd (upd (upd (upd (upd (upd (upd (upd (upd f15 1 0) 4 1) 9 1) 14 1) 19 1) 24 1) 29 1) 34 1) 39 1))), (q10, .inr (5, [.ref q13, .ref q14])), (q63, .inr (10, [w64, .int 1, .int 1])), (q1, .inr (11, [.ref q63, w53, w54, w55, w56, w57, w58, w59, .int 0, .int 0, w62]))] := hD
  exact x_vret hx hb hr hlocks hP hD hS hAe hsz (Nat.le_of_ble_eq_true rfl) (Nat.le_of_ble_eq_true rfl) (fun _ => 0) [0, 1, 2, 3, 4, 5] (by decide) rfl dX9_acceptIfFitting_32

set_option maxHeartbeats 4000000 in
set_option maxRecDepth 100000 in
theorem c1520_X9_addClip (l : Launch) (g : gG) (q1 q25 q29 q32 q34 q42 q43 q44 q45 q53 q54 q55 q56 q59 q60 q63 q64 q71 q72 q77 q78 : Nat) (x2 x3 x4 x5 : Int32) (w15 w16 w17 w18 w19 w20 w21 w22 w23 w24 w39 w40 w41 w75 w76 : Value) (f30 : Nat → Option Nat) (f65 : Nat → Int32) (f66 : Nat → Int32) (f79 : Nat → Int32) (f80 : Nat → Int32) (hf31 : f30 1 = some q32) (hf33 : f30 0 = some q34) (hf81 : f66 0 = 0) (hf82 : f66 2 = 0) (hf83 : f66 3 = 0) (hf84 : f66 5 = 0) (hf85 : f66 6 = 0) (hf86 : f66 7 = 0) (hf87 : f66 8 = 0) (hf88 : f66 10 = 0) (hf89 : f66 11 = 0) (hf90 : f66 12 = 0) (hf91 : f66 13 = 0) (hf92 : f66 15 = 0) (hf93 : f66 16 = 0) (hf94 : f66 17 = 0) (hf95 : f66 18 = 0) (hf96 : f66 20 = 0) (hf97 : f66 21 = 0) (hf98 : f66 22 = 0) (hf99 : f66 23 = 0) (hf100 : f66 25 = 0) (hf101 : f66 26 = 0) (hf102 : f66 27 = 0) (hf103 : f66 28 = 0) (hf104 : f66 30 = 0) (hf105 : f66 31 = 0) (hf106 : f66 32 = 0) (hf107 : f66 33 = 0) (hf108 : f66 35 = 0) (hf109 : f66 36 = 0) (hf110 : f66 37 = 0) (hf111 : f66 38 = 0) (h6 : (0 : Int32) ≤ x2) (h7 : x2 ≤ 9999) (h8 : (1 : Int32) ≤ x3) (h9 : x3 ≤ 9) (h10 : ((-50) : Int32) ≤ x4) (h11 : x4 ≤ 50) (h12 : (0 : Int32) ≤ x5) (h13 : x5 ≤ 3) (sz : Nat) : Met l yX9_addClip [Cond.code yX9_addClip cX9_addClip 7 (some .int)] ({ frames := 5, cells := 0, slots := 0, locals := 148 } : Room) (va_Pc [.ref q1, .int x2, .int 1, .int x3, .int x4, .int x5] (PX g sz [(q45, .inl (g.2 0, 20, .inl f80)), (q56, .inl (g.2 0, 20, .inl f80)), (q44, .inl (g.2 0, 60, .inl f65)), (q55, .inl (g.2 0, 60, .inl f65)), (q78, .inl (g.2 0, 10, .inl f79)), (q72, .inl (g.2 0, 10, .inl f79)), (q77, .inl (g.2 0, 10, .inl f65)), (q71, .inl (g.2 0, 10, .inl f65)), (q43, .inr (9, [.ref q77, .ref q78, w75, w76])), (q54, .inr (9, [.ref q71, .ref q72, .int 1, .int 0])), (q64, .inl (g.2 0, 40, .inl f66)), (q60, .inl (g.2 0, 40, .inl f66)), (q63, .inl (g.2 0, 384, .inl f65)), (q59, .inl (g.2 0, 384, .inl f65)), (q42, .inr (5, [.ref q63, .ref q64])), (q53, .inr (5, [.ref q59, .ref q60])), (q34, .inr (8, [.ref q53, .ref q54, .ref q55, .ref q56, .int 0, .int 4, .int 0])), (q32, .inr (8, [.ref q42, .ref q43, .ref q44, .ref q45, w39, w40, w41])), (q29, .inl (g.2 3, 10, .inr (.inr (.inr (.inr f30))))), (q25, .inr (10, [.ref q29, .int 0, .int 0])), (q1, .inr (11, [.ref q25, w15, w16, w17, w18, w19, w20, w21, w22, w23, w24]))])) (QI g [(q45, .inl (g.2 0, 20, .inl f80)), (q56, .inl (g.2 0, 20, .inl f80)), (q44, .inl (g.2 0, 60, .inl f65)), (q55, .inl (g.2 0, 60, .inl f65)), (q78, .inl (g.2 0, 10, .inl f79)), (q72, .inl (g.2 0, 10, .inl f79)), (q77, .inl (g.2 0, 10, .inl f65)), (q71, .inl (g.2 0, 10, .inl f65)), (q43, .inr (9, [.ref q77, .ref q78, w75, w76])), (q54, .inr (9, [.ref q71, .ref q72, .int 1, .int 0])), (q64, .inl (g.2 0, 40, .inl f66)), (q60, .inl (g.2 0, 40, .inl f66)), (q63, .inl (g.2 0, 384, .inl f65)), (q59, .inl (g.2 0, 384, .inl f65)), (q42, .inr (5, [.ref q63, .ref q64])), (q53, .inr (5, [.ref q59, .ref q60])), (q34, .inr (8, [.ref q53, .ref q54, .ref q55, .ref q56, .int 0, .int 4, .int 0])), (q32, .inr (8, [.ref q42, .ref q43, .ref q44, .ref q45, w39, w40, w41])), (q29, .inl (g.2 3, 10, .inr (.inr (.inr (.inr f30))))), (q25, .inr (10, [.ref q29, .int 0, .int 0])), (q1, .inr (11, [.ref q25, w15, w16, w17, w18, w19, w20, w21, w22, w23, w24]))] sz 0 (fun _ => [(q29, .inl (g.2 3, 10, .inr (.inr (.inr (.inr f30))))), (q34, .inr (8, [.ref q53, .ref q54, .ref q55, .ref q56, .int 0, .int 4, .int 0])), (q53, .inr (5, [.ref q59, .ref q60])), (q63, .inl (g.2 0, 384, .inl f65)), (q59, .inl (g.2 0, 384, .inl f65)), (q60, .inl (g.2 0, 40, .inl f66)), (q43, .inr (9, [.ref q77, .ref q78, .int 1, .int 0])), (q54, .inr (9, [.ref q71, .ref q72, .int 1, .int 0])), (q77, .inl (g.2 0, 10, .inl f65)), (q71, .inl (g.2 0, 10, .inl f65)), (q78, .inl (g.2 0, 10, .inl f79)), (q72, .inl (g.2 0, 10, .inl f79)), (q55, .inl (g.2 0, 60, .inl f65)), (q45, .inl (g.2 0, 20, .inl f80)), (q56, .inl (g.2 0, 20, .inl f80)), (q44, .inl (g.2 0, 60, .inl (upd (upd (upd (upd (upd f65 0 x2) 1 1) 2 x3) 3 x4) 4 x5))), (q64, .inl (g.2 0, 40, .inl (upd (upd (upd (upd (upd (upd (upd (upd (upd f66 1 0) 4 1) 9 1) 14 1) 19 1) 24 1) 29 1) 34 1) 39 1))), (q42, .inr (5, [.ref q63, .ref q64])), (q25, .inr (10, [.ref q29, .int 1, .int 1])), (q1, .inr (11, [.ref q25, w15, w16, w17, w18, w19, w20, w21, .int 0, .int 0, w24])), (q32, .inr (8, [.ref q42, .ref q43, .ref q44, .ref q45, .int 1, .int 4, .int 0]))])) 0 0 (va_A [(q45, .inl (g.2 0, 20, .inl f80)), (q56, .inl (g.2 0, 20, .inl f80)), (q44, .inl (g.2 0, 60, .inl f65)), (q55, .inl (g.2 0, 60, .inl f65)), (q78, .inl (g.2 0, 10, .inl f79)), (q72, .inl (g.2 0, 10, .inl f79)), (q77, .inl (g.2 0, 10, .inl f65)), (q71, .inl (g.2 0, 10, .inl f65)), (q43, .inr (9, [.ref q77, .ref q78, w75, w76])), (q54, .inr (9, [.ref q71, .ref q72, .int 1, .int 0])), (q64, .inl (g.2 0, 40, .inl f66)), (q60, .inl (g.2 0, 40, .inl f66)), (q63, .inl (g.2 0, 384, .inl f65)), (q59, .inl (g.2 0, 384, .inl f65)), (q42, .inr (5, [.ref q63, .ref q64])), (q53, .inr (5, [.ref q59, .ref q60])), (q34, .inr (8, [.ref q53, .ref q54, .ref q55, .ref q56, .int 0, .int 4, .int 0])), (q32, .inr (8, [.ref q42, .ref q43, .ref q44, .ref q45, w39, w40, w41])), (q29, .inl (g.2 3, 10, .inr (.inr (.inr (.inr f30))))), (q25, .inr (10, [.ref q29, .int 0, .int 0])), (q1, .inr (11, [.ref q25, w15, w16, w17, w18, w19, w20, w21, w22, w23, w24]))] sz) := by
  refine ofN (by decide) (Nat.le_of_ble_eq_true rfl) rfl ?_
  intro p e s m args below meth c A ls hAe hsz hx hb hml hr hlocks hin hown hE hP hD hA hS hl
  have hown : s.vm.findClass RX9 = some m.cls := hown
  refine lv_iload_n hx hb dX9_addClip_0 rfl (lv_at hl 1 rfl) ?_
  refine lv_iconst (v := 0) hx hb dX9_addClip_1 (by decide) ?_
  refine lv_sipush (v := 9999) hx hb dX9_addClip_2 (by decide) ?_
  refine g0_v (rS (rest := []) hx hb hml hown hE hP hD (c1477_X9_requireRange l g x2 h6 h7 s.heap.size) (kS_X9_requireRange hE (e636 hE) rfl rfl ⟨(Nat.le_of_ble_eq_true rfl), (Nat.le_of_ble_eq_true rfl)⟩) [] rfl (by decide) rfl hl.1 rfl (lv_room (Nat.le_of_ble_eq_true rfl)) dX9_addClip_5 ⟨(Nat.le_of_ble_eq_true rfl), (Nat.le_of_ble_eq_true rfl)⟩) hP hD hS hA (fun u9 H locs hP hS => ?_)
  refine lv_iload_n hx hb dX9_addClip_8 rfl (lv_at hl 2 rfl) ?_
  refine lv_iconst (v := 0) hx hb dX9_addClip_9 (by decide) ?_
  refine lv_bipush (v := 7) hx hb dX9_addClip_10 (by decide) ?_
  refine g0_v (rS (rest := []) hx hb hml hown hE hP hD (c1482_X9_requireRange l g 1 (by decide) (by decide) H.size) (kS_X9_requireRange hE (e636 hE) rfl rfl ⟨(Nat.le_of_ble_eq_true rfl), (Nat.le_of_ble_eq_true rfl)⟩) [] rfl (by decide) rfl hl.1 rfl (lv_room (Nat.le_of_ble_eq_true rfl)) dX9_addClip_12 ⟨(Nat.le_of_ble_eq_true rfl), (Nat.le_of_ble_eq_true rfl)⟩) hP hD hS hA (fun u9 H locs hP hS => ?_)
  refine lv_iload_n hx hb dX9_addClip_15 rfl (lv_at hl 3 rfl) ?_
  refine lv_iconst (v := 1) hx hb dX9_addClip_16 (by decide) ?_
  refine lv_bipush (v := 9) hx hb dX9_addClip_17 (by decide) ?_
  refine g0_v (rS (rest := []) hx hb hml hown hE hP hD (c117_X9_requireRange l g x3 h8 h9 H.size) (kS_X9_requireRange hE (e636 hE) rfl rfl ⟨(Nat.le_of_ble_eq_true rfl), (Nat.le_of_ble_eq_true rfl)⟩) [] rfl (by decide) rfl hl.1 rfl (lv_room (Nat.le_of_ble_eq_true rfl)) dX9_addClip_19 ⟨(Nat.le_of_ble_eq_true rfl), (Nat.le_of_ble_eq_true rfl)⟩) hP hD hS hA (fun u9 H locs hP hS => ?_)
  refine lv_iload hx hb dX9_addClip_22 (lv_at hl 4 rfl) ?_
  refine lv_bipush (v := (-50)) hx hb dX9_addClip_24 (by decide) ?_
  refine lv_bipush (v := 50) hx hb dX9_addClip_26 (by decide) ?_
  refine g0_v (rS (rest := []) hx hb hml hown hE hP hD (c1491_X9_requireRange l g x4 h10 h11 H.size) (kS_X9_requireRange hE (e636 hE) rfl rfl ⟨(Nat.le_of_ble_eq_true rfl), (Nat.le_of_ble_eq_true rfl)⟩) [] rfl (by decide) rfl hl.1 rfl (lv_room (Nat.le_of_ble_eq_true rfl)) dX9_addClip_28 ⟨(Nat.le_of_ble_eq_true rfl), (Nat.le_of_ble_eq_true rfl)⟩) hP hD hS hA (fun u9 H locs hP hS => ?_)
  refine lv_iload hx hb dX9_addClip_31 (lv_at hl 5 rfl) ?_
  refine lv_iconst (v := 0) hx hb dX9_addClip_33 (by decide) ?_
  refine lv_iconst (v := 3) hx hb dX9_addClip_34 (by decide) ?_
  refine g0_v (rS (rest := []) hx hb hml hown hE hP hD (c815_X9_requireRange l g x5 h12 h13 H.size) (kS_X9_requireRange hE (e636 hE) rfl rfl ⟨(Nat.le_of_ble_eq_true rfl), (Nat.le_of_ble_eq_true rfl)⟩) [] rfl (by decide) rfl hl.1 rfl (lv_room (Nat.le_of_ble_eq_true rfl)) dX9_addClip_35 ⟨(Nat.le_of_ble_eq_true rfl), (Nat.le_of_ble_eq_true rfl)⟩) hP hD hS hA (fun u9 H locs hP hS => ?_)
  refine lv_aload_n hx hb dX9_addClip_38 rfl (lv_at hl 0 rfl) ?_
  refine gf_RX9_12 hx hb hown hE hP 20 rfl rfl dX9_addClip_39 ?_
  refine g_r (wr := [(q1, .inr (11, [.ref q25, w15, w16, w17, w18, w19, w20, w21, w22, w23, w24]))]) (rV (rest := []) hx hb hml hown hE hP hD 19 rfl rfl (c127_X8_draft l g q25 q29 q32 q34 q42 q53 q59 q63 q60 q64 q43 q54 q71 q77 q72 q78 q55 q44 q56 q45 (.int 0) w39 w40 w41 w75 w76 f30 f65 f66 f79 f80 (hf31) (hf33) H.size) (kV_X8_draft hE (e659 hE) rfl rfl ⟨(Nat.le_of_ble_eq_true rfl), (Nat.le_of_ble_eq_true rfl)⟩) [0, 1, 2, 3, 4, 5, 6, 7, 8, 9, 10, 11, 12, 13, 14, 15, 16, 17, 18, 19] rfl (by decide) rfl hl.1 rfl (lv_room (Nat.le_of_ble_eq_true rfl)) dX9_addClip_42 ⟨(Nat.le_of_ble_eq_true rfl), (Nat.le_of_ble_eq_true rfl)⟩) hP hD hS hA [0, 1, 2, 3, 4, 5, 6, 7, 8, 9, 10, 11, 12, 13, 14, 15, 16, 17, 18, 19] [20] rfl rfl (by decide) (by decide) (fun u6 H locs hP hD hS => ?_)
  have hP : va_P g.1 vwCl [(q1, .inr (11, [.ref q25, w15, w16, w17, w18, w19, w20, w21, w22, w23, w24])), (q29, .inl (g.2 3, 10, .inr (.inr (.inr (.inr f30))))), (q25, .inr (10, [.ref q29, .int 0, .int 0])), (q34, .inr (8, [.ref q53, .ref q54, .ref q55, .ref q56, .int 0, .int 4, .int 0])), (q32, .inr (8, [.ref q42, .ref q43, .ref q44, .ref q45, .int 0, .int 4, .int 0])), (q42, .inr (5, [.ref q63, .ref q64])), (q53, .inr (5, [.ref q59, .ref q60])), (q63, .inl (g.2 0, 384, .inl f65)), (q59, .inl (g.2 0, 384, .inl f65)), (q64, .inl (g.2 0, 40, .inl f66)), (q60, .inl (g.2 0, 40, .inl f66)), (q43, .inr (9, [.ref q77, .ref q78, .int 1, .int 0])), (q54, .inr (9, [.ref q71, .ref q72, .int 1, .int 0])), (q77, .inl (g.2 0, 10, .inl f65)), (q71, .inl (g.2 0, 10, .inl f65)), (q78, .inl (g.2 0, 10, .inl f79)), (q72, .inl (g.2 0, 10, .inl f79)), (q44, .inl (g.2 0, 60, .inl f65)), (q55, .inl (g.2 0, 60, .inl f65)), (q45, .inl (g.2 0, 20, .inl f80)), (q56, .inl (g.2 0, 20, .inl f80))] H := hP
  have hD : va_D A [(q1, .inr (11, [.ref q25, w15, w16, w17, w18, w19, w20, w21, w22, w23, w24])), (q29, .inl (g.2 3, 10, .inr (.inr (.inr (.inr f30))))), (q25, .inr (10, [.ref q29, .int 0, .int 0])), (q34, .inr (8, [.ref q53, .ref q54, .ref q55, .ref q56, .int 0, .int 4, .int 0])), (q32, .inr (8, [.ref q42, .ref q43, .ref q44, .ref q45, .int 0, .int 4, .int 0])), (q42, .inr (5, [.ref q63, .ref q64])), (q53, .inr (5, [.ref q59, .ref q60])), (q63, .inl (g.2 0, 384, .inl f65)), (q59, .inl (g.2 0, 384, .inl f65)), (q64, .inl (g.2 0, 40, .inl f66)), (q60, .inl (g.2 0, 40, .inl f66)), (q43, .inr (9, [.ref q77, .ref q78, .int 1, .int 0])), (q54, .inr (9, [.ref q71, .ref q72, .int 1, .int 0])), (q77, .inl (g.2 0, 10, .inl f65)), (q71, .inl (g.2 0, 10, .inl f65)), (q78, .inl (g.2 0, 10, .inl f79)), (q72, .inl (g.2 0, 10, .inl f79)), (q44, .inl (g.2 0, 60, .inl f65)), (q55, .inl (g.2 0, 60, .inl f65)), (q45, .inl (g.2 0, 20, .inl f80)), (q56, .inl (g.2 0, 20, .inl f80))] := hD
  refine lv_astore (lv' := [(6, .ref q32), (0, .ref q1), (1, .int x2), (2, .int 1), (3, .int x3), (4, .int x4), (5, .int x5)]) hx hb dX9_addClip_45 hl (by decide) rfl (fun ls hl => ?_)
  refine lv_aload hx hb dX9_addClip_47 (lv_at hl 0 rfl) ?_
  refine g_i (wr := [(q1, .inr (11, [.ref q25, w15, w16, w17, w18, w19, w20, w21, w22, w23, w24])), (q29, .inl (g.2 3, 10, .inr (.inr (.inr (.inr f30))))), (q25, .inr (10, [.ref q29, .int 0, .int 0])), (q34, .inr (8, [.ref q53, .ref q54, .ref q55, .ref q56, .int 0, .int 4, .int 0])), (q42, .inr (5, [.ref q63, .ref q64])), (q53, .inr (5, [.ref q59, .ref q60])), (q63, .inl (g.2 0, 384, .inl f65)), (q59, .inl (g.2 0, 384, .inl f65)), (q64, .inl (g.2 0, 40, .inl f66)), (q60, .inl (g.2 0, 40, .inl f66)), (q43, .inr (9, [.ref q77, .ref q78, .int 1, .int 0])), (q54, .inr (9, [.ref q71, .ref q72, .int 1, .int 0])), (q77, .inl (g.2 0, 10, .inl f65)), (q71, .inl (g.2 0, 10, .inl f65)), (q78, .inl (g.2 0, 10, .inl f79)), (q72, .inl (g.2 0, 10, .inl f79)), (q44, .inl (g.2 0, 60, .inl f65)), (q55, .inl (g.2 0, 60, .inl f65)), (q45, .inl (g.2 0, 20, .inl f80)), (q56, .inl (g.2 0, 20, .inl f80))]) (rV (rest := []) hx hb hml hown hE hP hD 4 rfl rfl (c72_X6_clipCount l g q32 (.ref q42) (.ref q43) (.ref q44) (.ref q45) (.int 4) (.int 0) H.size) (kV_X6_clipCount hE (e297 hE) rfl rfl ⟨(Nat.le_of_ble_eq_true rfl), (Nat.le_of_ble_eq_true rfl)⟩) [4] rfl (by decide) rfl hl.1 rfl (lv_room (Nat.le_of_ble_eq_true rfl)) dX9_addClip_49 ⟨(Nat.le_of_ble_eq_true rfl), (Nat.le_of_ble_eq_true rfl)⟩) hP hD hS hA [4] [0, 1, 2, 3, 5, 6, 7, 8, 9, 10, 11, 12, 13, 14, 15, 16, 17, 18, 19, 20] rfl rfl (by decide) (by decide) (fun u7 H locs hP hD hS => ?_)
  have hP : va_P g.1 vwCl [(q1, .inr (11, [.ref q25, w15, w16, w17, w18, w19, w20, w21, w22, w23, w24])), (q29, .inl (g.2 3, 10, .inr (.inr (.inr (.inr f30))))), (q25, .inr (10, [.ref q29, .int 0, .int 0])), (q34, .inr (8, [.ref q53, .ref q54, .ref q55, .ref q56, .int 0, .int 4, .int 0])), (q42, .inr (5, [.ref q63, .ref q64])), (q53, .inr (5, [.ref q59, .ref q60])), (q63, .inl (g.2 0, 384, .inl f65)), (q59, .inl (g.2 0, 384, .inl f65)), (q64, .inl (g.2 0, 40, .inl f66)), (q60, .inl (g.2 0, 40, .inl f66)), (q43, .inr (9, [.ref q77, .ref q78, .int 1, .int 0])), (q54, .inr (9, [.ref q71, .ref q72, .int 1, .int 0])), (q77, .inl (g.2 0, 10, .inl f65)), (q71, .inl (g.2 0, 10, .inl f65)), (q78, .inl (g.2 0, 10, .inl f79)), (q72, .inl (g.2 0, 10, .inl f79)), (q44, .inl (g.2 0, 60, .inl f65)), (q55, .inl (g.2 0, 60, .inl f65)), (q45, .inl (g.2 0, 20, .inl f80)), (q56, .inl (g.2 0, 20, .inl f80)), (q32, .inr (8, [.ref q42, .ref q43, .ref q44, .ref q45, .int 0, .int 4, .int 0]))] H := hP
  have hD : va_D A [(q1, .inr (11, [.ref q25, w15, w16, w17, w18, w19, w20, w21, w22, w23, w24])), (q29, .inl (g.2 3, 10, .inr (.inr (.inr (.inr f30))))), (q25, .inr (10, [.ref q29, .int 0, .int 0])), (q34, .inr (8, [.ref q53, .ref q54, .ref q55, .ref q56, .int 0, .int 4, .int 0])), (q42, .inr (5, [.ref q63, .ref q64])), (q53, .inr (5, [.ref q59, .ref q60])), (q63, .inl (g.2 0, 384, .inl f65)), (q59, .inl (g.2 0, 384, .inl f65)), (q64, .inl (g.2 0, 40, .inl f66)), (q60, .inl (g.2 0, 40, .inl f66)), (q43, .inr (9, [.ref q77, .ref q78, .int 1, .int 0])), (q54, .inr (9, [.ref q71, .ref q72, .int 1, .int 0])), (q77, .inl (g.2 0, 10, .inl f65)), (q71, .inl (g.2 0, 10, .inl f65)), (q78, .inl (g.2 0, 10, .inl f79)), (q72, .inl (g.2 0, 10, .inl f79)), (q44, .inl (g.2 0, 60, .inl f65)), (q55, .inl (g.2 0, 60, .inl f65)), (q45, .inl (g.2 0, 20, .inl f80)), (q56, .inl (g.2 0, 20, .inl f80)), (q32, .inr (8, [.ref q42, .ref q43, .ref q44, .ref q45, .int 0, .int 4, .int 0]))] := hD
  refine lv_bipush (v := 12) hx hb dX9_addClip_52 (by decide) ?_
  refine lv_icmp_lt (tgt := 67) hx hb dX9_addClip_54 (by decide) (fun _ => ?_) (fun h => absurd (by decide) h)
  refine lv_aload hx hb dX9_addClip_67 (lv_at hl 0 rfl) ?_
  refine lv_iload_n hx hb dX9_addClip_69 rfl (lv_at hl 2 rfl) ?_
  refine lv_iload_n hx hb dX9_addClip_70 rfl (lv_at hl 3 rfl) ?_
  refine lv_iload_n hx hb dX9_addClip_71 rfl (lv_at hl 4 rfl) ?_
  refine lv_iload hx hb dX9_addClip_72 (lv_at hl 5 rfl) ?_
  refine lv_iload hx hb dX9_addClip_74 (lv_at hl 6 rfl) ?_
  refine g_v (wr := [(q1, .inr (11, [.ref q25, w15, w16, w17, w18, w19, w20, w21, w22, w23, w24])), (q29, .inl (g.2 3, 10, .inr (.inr (.inr (.inr f30))))), (q25, .inr (10, [.ref q29, .int 0, .int 0])), (q34, .inr (8, [.ref q53, .ref q54, .ref q55, .ref q56, .int 0, .int 4, .int 0])), (q42, .inr (5, [.ref q63, .ref q64])), (q53, .inr (5, [.ref q59, .ref q60])), (q63, .inl (g.2 0, 384, .inl f65)), (q59, .inl (g.2 0, 384, .inl f65)), (q64, .inl (g.2 0, 40, .inl f66)), (q60, .inl (g.2 0, 40, .inl f66)), (q43, .inr (9, [.ref q77, .ref q78, .int 1, .int 0])), (q54, .inr (9, [.ref q71, .ref q72, .int 1, .int 0])), (q77, .inl (g.2 0, 10, .inl f65)), (q71, .inl (g.2 0, 10, .inl f65)), (q78, .inl (g.2 0, 10, .inl f79)), (q72, .inl (g.2 0, 10, .inl f79)), (q55, .inl (g.2 0, 60, .inl f65)), (q45, .inl (g.2 0, 20, .inl f80)), (q56, .inl (g.2 0, 20, .inl f80))]) (rV (rest := []) hx hb hml hown hE hP hD 20 rfl rfl (c1501_X6_putClip l g q32 q44 x2 1 x3 x4 x5 (.ref q42) (.ref q43) (.ref q45) (.int 4) (.int 0) f65 H.size) (kV_X6_putClip hE (e808 hE) rfl rfl ⟨(Nat.le_of_ble_eq_true rfl), (Nat.le_of_ble_eq_true rfl)⟩) [16, 20] rfl (by decide) rfl hl.1 rfl (lv_room (Nat.le_of_ble_eq_true rfl)) dX9_addClip_76 ⟨(Nat.le_of_ble_eq_true rfl), (Nat.le_of_ble_eq_true rfl)⟩) hP hD hS hA [16, 20] [0, 1, 2, 3, 4, 5, 6, 7, 8, 9, 10, 11, 12, 13, 14, 15, 17, 18, 19] rfl rfl (by decide) (by decide) (fun u8 H locs hP hD hS => ?_)
  have hP : va_P g.1 vwCl [(q1, .inr (11, [.ref q25, w15, w16, w17, w18, w19, w20, w21, w22, w23, w24])), (q29, .inl (g.2 3, 10, .inr (.inr (.inr (.inr f30))))), (q25, .inr (10, [.ref q29, .int 0, .int 0])), (q34, .inr (8, [.ref q53, .ref q54, .ref q55, .ref q56, .int 0, .int 4, .int 0])), (q42, .inr (5, [.ref q63, .ref q64])), (q53, .inr (5, [.ref q59, .ref q60])), (q63, .inl (g.2 0, 384, .inl f65)), (q59, .inl (g.2 0, 384, .inl f65)), (q64, .inl (g.2 0, 40, .inl f66)), (q60, .inl (g.2 0, 40, .inl f66)), (q43, .inr (9, [.ref q77, .ref q78, .int 1, .int 0])), (q54, .inr (9, [.ref q71, .ref q72, .int 1, .int 0])), (q77, .inl (g.2 0, 10, .inl f65)), (q71, .inl (g.2 0, 10, .inl f65)), (q78, .inl (g.2 0, 10, .inl f79)), (q72, .inl (g.2 0, 10, .inl f79)), (q55, .inl (g.2 0, 60, .inl f65)), (q45, .inl (g.2 0, 20, .inl f80)), (q56, .inl (g.2 0, 20, .inl f80)), (q32, .inr (8, [.ref q42, .ref q43, .ref q44, .ref q45, .int 1, .int 4, .int 0])), (q44, .inl (g.2 0, 60, .inl (upd (upd (upd (upd (upd f65 0 x2) 1 1) 2 x3) 3 x4) 4 x5)))] H := hP
  have hD : va_D A [(q1, .inr (11, [.ref q25, w15, w16, w17, w18, w19, w20, w21, w22, w23, w24])), (q29, .inl (g.2 3, 10, .inr (.inr (.inr (.inr f30))))), (q25, .inr (10, [.ref q29, .int 0, .int 0])), (q34, .inr (8, [.ref q53, .ref q54, .ref q55, .ref q56, .int 0, .int 4, .int 0])), (q42, .inr (5, [.ref q63, .ref q64])), (q53, .inr (5, [.ref q59, .ref q60])), (q63, .inl (g.2 0, 384, .inl f65)), (q59, .inl (g.2 0, 384, .inl f65)), (q64, .inl (g.2 0, 40, .inl f66)), (q60, .inl (g.2 0, 40, .inl f66)), (q43, .inr (9, [.ref q77, .ref q78, .int 1, .int 0])), (q54, .inr (9, [.ref q71, .ref q72, .int 1, .int 0])), (q77, .inl (g.2 0, 10, .inl f65)), (q71, .inl (g.2 0, 10, .inl f65)), (q78, .inl (g.2 0, 10, .inl f79)), (q72, .inl (g.2 0, 10, .inl f79)), (q55, .inl (g.2 0, 60, .inl f65)), (q45, .inl (g.2 0, 20, .inl f80)), (q56, .inl (g.2 0, 20, .inl f80)), (q32, .inr (8, [.ref q42, .ref q43, .ref q44, .ref q45, .int 1, .int 4, .int 0])), (q44, .inl (g.2 0, 60, .inl (upd (upd (upd (upd (upd f65 0 x2) 1 1) 2 x3) 3 x4) 4 x5)))] := hD
  refine lv_aload_n hx hb dX9_addClip_79 rfl (lv_at hl 1 rfl) ?_
  refine lv_aload hx hb dX9_addClip_80 (lv_at hl 0 rfl) ?_
  refine g_v (wr := [(q29, .inl (g.2 3, 10, .inr (.inr (.inr (.inr f30))))), (q34, .inr (8, [.ref q53, .ref q54, .ref q55, .ref q56, .int 0, .int 4, .int 0])), (q53, .inr (5, [.ref q59, .ref q60])), (q63, .inl (g.2 0, 384, .inl f65)), (q59, .inl (g.2 0, 384, .inl f65)), (q60, .inl (g.2 0, 40, .inl f66)), (q43, .inr (9, [.ref q77, .ref q78, .int 1, .int 0])), (q54, .inr (9, [.ref q71, .ref q72, .int 1, .int 0])), (q77, .inl (g.2 0, 10, .inl f65)), (q71, .inl (g.2 0, 10, .inl f65)), (q78, .inl (g.2 0, 10, .inl f79)), (q72, .inl (g.2 0, 10, .inl f79)), (q55, .inl (g.2 0, 60, .inl f65)), (q45, .inl (g.2 0, 20, .inl f80)), (q56, .inl (g.2 0, 20, .inl f80))]) (rV (rest := []) hx hb hml hown hE hP hD 0 rfl rfl (c1519_X9_acceptIfFitting l g q1 q32 q42 q63 q64 q44 q25 x3 (.ref q43) (.ref q45) (.int 4) (.int 0) w15 w16 w17 w18 w19 w20 w21 w22 w23 w24 (.ref q29) f66 (upd (upd (upd (upd (upd f65 0 x2) 1 1) 2 x3) 3 x4) 4 x5) (hf81) (hf82) (hf83) (hf84) (hf85) (hf86) (hf87) (hf88) (hf89) (hf90) (hf91) (hf92) (hf93) (hf94) (hf95) (hf96) (hf97) (hf98) (hf99) (hf100) (hf101) (hf102) (hf103) (hf104) (hf105) (hf106) (hf107) (hf108) (hf109) (hf110) (hf111) (((pk_un (by decide)).trans ((pk_un (by decide)).trans pk_us))) (((pk_un (by decide)).trans ((pk_un (by decide)).trans ((pk_un (by decide)).trans pk_us)))) H.size) (kV_X9_acceptIfFitting hE (e690 hE) rfl rfl ⟨(Nat.le_of_ble_eq_true rfl), (Nat.le_of_ble_eq_true rfl)⟩) [2, 0, 20, 8, 4, 19] rfl (by decide) rfl hl.1 rfl (lv_room (Nat.le_of_ble_eq_true rfl)) dX9_addClip_82 ⟨(Nat.le_of_ble_eq_true rfl), (Nat.le_of_ble_eq_true rfl)⟩) hP hD hS hA [2, 0, 20, 8, 4, 19] [1, 3, 5, 6, 7, 9, 10, 11, 12, 13, 14, 15, 16, 17, 18] rfl rfl (by decide) (by decide) (fun u9 H locs hP hD hS => ?_)
  have hP : va_P g.1 vwCl [(q29, .inl (g.2 3, 10, .inr (.inr (.inr (.inr f30))))), (q34, .inr (8, [.ref q53, .ref q54, .ref q55, .ref q56, .int 0, .int 4, .int 0])), (q53, .inr (5, [.ref q59, .ref q60])), (q63, .inl (g.2 0, 384, .inl f65)), (q59, .inl (g.2 0, 384, .inl f65)), (q60, .inl (g.2 0, 40, .inl f66)), (q43, .inr (9, [.ref q77, .ref q78, .int 1, .int 0])), (q54, .inr (9, [.ref q71, .ref q72, .int 1, .int 0])), (q77, .inl (g.2 0, 10, .inl f65)), (q71, .inl (g.2 0, 10, .inl f65)), (q78, .inl (g.2 0, 10, .inl f79)), (q72, .inl (g.2 0, 10, .inl f79)), (q55, .inl (g.2 0, 60, .inl f65)), (q45, .inl (g.2 0, 20, .inl f80)), (q56, .inl (g.2 0, 20, .inl f80)), (q44, .inl (g.2 0, 60, .inl (upd (upd (upd (upd (upd f65 0 x2) 1 1) 2 x3) 3 x4) 4 x5))), (q32, .inr (8, [.ref q42, .ref q43, .ref q44, .ref q45, .int 1, .int 4, .int 0])), (q64, .inl (g.2 0, 40, .inl (upd (upd (upd (upd (upd (upd (upd (upd (upd f66 1 0) 4 1) 9 1) 14 1) 19 1) 24 1) 29 1) 34 1) 39 1))), (q42, .inr (5, [.ref q63, .ref q64])), (q25, .inr (10, [.ref q29, .int 1, .int 1])), (q1, .inr (11, [.ref q25, w15, w16, w17, w18, w19, w20, w21, .int 0, .int 0, w24]))] H := hP
  have hD : va_D A [(q29, .inl (g.2 3, 10, .inr (.inr (.inr (.inr f30))))), (q34, .inr (8, [.ref q53, .ref q54, .ref q55, .ref q56, .int 0, .int 4, .int 0])), (q53, .inr (5, [.ref q59, .ref q60])), (q63, .inl (g.2 0, 384, .inl f65)), (q59, .inl (g.2 0, 384, .inl f65)), (q60, .inl (g.2 0, 40, .inl f66)), (q43, .inr (9, [.ref q77, .ref q78, .int 1, .int 0])), (q54, .inr (9, [.ref q71, .ref q72, .int 1, .int 0])), (q77, .inl (g.2 0, 10, .inl f65)), (q71, .inl (g.2 0, 10, .inl f65)), (q78, .inl (g.2 0, 10, .inl f79)), (q72, .inl (g.2 0, 10, .inl f79)), (q55, .inl (g.2 0, 60, .inl f65)), (q45, .inl (g.2 0, 20, .inl f80)), (q56, .inl (g.2 0, 20, .inl f80)), (q44, .inl (g.2 0, 60, .inl (upd (upd (upd (upd (upd f65 0 x2) 1 1) 2 x3) 3 x4) 4 x5))), (q32, .inr (8, [.ref q42, .ref q43, .ref q44, .ref q45, .int 1, .int 4, .int 0])), (q64, .inl (g.2 0, 40, .inl (upd (upd (upd (upd (upd (upd (upd (upd (upd f66 1 0) 4 1) 9 1) 14 1) 19 1) 24 1) 29 1) 34 1) 39 1))), (q42, .inr (5, [.ref q63, .ref q64])), (q25, .inr (10, [.ref q29, .int 1, .int 1])), (q1, .inr (11, [.ref q25, w15, w16, w17, w18, w19, w20, w21, .int 0, .int 0, w24]))] := hD
  refine lv_aload hx hb dX9_addClip_85 (lv_at hl 0 rfl) ?_
  refine g_i (wr := [(q29, .inl (g.2 3, 10, .inr (.inr (.inr (.inr f30))))), (q34, .inr (8, [.ref q53, .ref q54, .ref q55, .ref q56, .int 0, .int 4, .int 0])), (q53, .inr (5, [.ref q59, .ref q60])), (q63, .inl (g.2 0, 384, .inl f65)), (q59, .inl (g.2 0, 384, .inl f65)), (q60, .inl (g.2 0, 40, .inl f66)), (q43, .inr (9, [.ref q77, .ref q78, .int 1, .int 0])), (q54, .inr (9, [.ref q71, .ref q72, .int 1, .int 0])), (q77, .inl (g.2 0, 10, .inl f65)), (q71, .inl (g.2 0, 10, .inl f65)), (q78, .inl (g.2 0, 10, .inl f79)), (q72, .inl (g.2 0, 10, .inl f79)), (q55, .inl (g.2 0, 60, .inl f65)), (q45, .inl (g.2 0, 20, .inl f80)), (q56, .inl (g.2 0, 20, .inl f80)), (q44, .inl (g.2 0, 60, .inl (upd (upd (upd (upd (upd f65 0 x2) 1 1) 2 x3) 3 x4) 4 x5))), (q64, .inl (g.2 0, 40, .inl (upd (upd (upd (upd (upd (upd (upd (upd (upd f66 1 0) 4 1) 9 1) 14 1) 19 1) 24 1) 29 1) 34 1) 39 1))), (q42, .inr (5, [.ref q63, .ref q64])), (q25, .inr (10, [.ref q29, .int 1, .int 1])), (q1, .inr (11, [.ref q25, w15, w16, w17, w18, w19, w20, w21, .int 0, .int 0, w24]))]) (rV (rest := []) hx hb hml hown hE hP hD 16 rfl rfl (c1509_X6_clipCount l g q32 (.ref q42) (.ref q43) (.ref q44) (.ref q45) (.int 4) (.int 0) H.size) (kV_X6_clipCount hE (e297 hE) rfl rfl ⟨(Nat.le_of_ble_eq_true rfl), (Nat.le_of_ble_eq_true rfl)⟩) [16] rfl (by decide) rfl hl.1 rfl (lv_room (Nat.le_of_ble_eq_true rfl)) dX9_addClip_87 ⟨(Nat.le_of_ble_eq_true rfl), (Nat.le_of_ble_eq_true rfl)⟩) hP hD hS hA [16] [0, 1, 2, 3, 4, 5, 6, 7, 8, 9, 10, 11, 12, 13, 14, 15, 17, 18, 19, 20] rfl rfl (by decide) (by decide) (fun u10 H locs hP hD hS => ?_)
  have hP : va_P g.1 vwCl [(q29, .inl (g.2 3, 10, .inr (.inr (.inr (.inr f30))))), (q34, .inr (8, [.ref q53, .ref q54, .ref q55, .ref q56, .int 0, .int 4, .int 0])), (q53, .inr (5, [.ref q59, .ref q60])), (q63, .inl (g.2 0, 384, .inl f65)), (q59, .inl (g.2 0, 384, .inl f65)), (q60, .inl (g.2 0, 40, .inl f66)), (q43, .inr (9, [.ref q77, .ref q78, .int 1, .int 0])), (q54, .inr (9, [.ref q71, .ref q72, .int 1, .int 0])), (q77, .inl (g.2 0, 10, .inl f65)), (q71, .inl (g.2 0, 10, .inl f65)), (q78, .inl (g.2 0, 10, .inl f79)), (q72, .inl (g.2 0, 10, .inl f79)), (q55, .inl (g.2 0, 60, .inl f65)), (q45, .inl (g.2 0, 20, .inl f80)), (q56, .inl (g.2 0, 20, .inl f80)), (q44, .inl (g.2 0, 60, .inl (upd (upd (upd (upd (upd f65 0 x2) 1 1) 2 x3) 3 x4) 4 x5))), (q64, .inl (g.2 0, 40, .inl (upd (upd (upd (upd (upd (upd (upd (upd (upd f66 1 0) 4 1) 9 1) 14 1) 19 1) 24 1) 29 1) 34 1) 39 1))), (q42, .inr (5, [.ref q63, .ref q64])), (q25, .inr (10, [.ref q29, .int 1, .int 1])), (q1, .inr (11, [.ref q25, w15, w16, w17, w18, w19, w20, w21, .int 0, .int 0, w24])), (q32, .inr (8, [.ref q42, .ref q43, .ref q44, .ref q45, .int 1, .int 4, .int 0]))] H := hP
  have hD : va_D A [(q29, .inl (g.2 3, 10, .inr (.inr (.inr (.inr f30))))), (q34, .inr (8, [.ref q53, .ref q54, .ref q55, .ref q56, .int 0, .int 4, .int 0])), (q53, .inr (5, [.ref q59, .ref q60])), (q63, .inl (g.2 0, 384, .inl f65)), (q59, .inl (g.2 0, 384, .inl f65)), (q60, .inl (g.2 0, 40, .inl f66)), (q43, .inr (9, [.ref q77, .ref q78, .int 1, .int 0])), (q54, .inr (9, [.ref q71, .ref q72, .int 1, .int 0])), (q77, .inl (g.2 0, 10, .inl f65)), (q71, .inl (g.2 0, 10, .inl f65)), (q78, .inl (g.2 0, 10, .inl f79)), (q72, .inl (g.2 0, 10, .inl f79)), (q55, .inl (g.2 0, 60, .inl f65)), (q45, .inl (g.2 0, 20, .inl f80)), (q56, .inl (g.2 0, 20, .inl f80)), (q44, .inl (g.2 0, 60, .inl (upd (upd (upd (upd (upd f65 0 x2) 1 1) 2 x3) 3 x4) 4 x5))), (q64, .inl (g.2 0, 40, .inl (upd (upd (upd (upd (upd (upd (upd (upd (upd f66 1 0) 4 1) 9 1) 14 1) 19 1) 24 1) 29 1) 34 1) 39 1))), (q42, .inr (5, [.ref q63, .ref q64])), (q25, .inr (10, [.ref q29, .int 1, .int 1])), (q1, .inr (11, [.ref q25, w15, w16, w17, w18, w19, w20, w21, .int 0, .int 0, w24])), (q32, .inr (8, [.ref q42, .ref q43, .ref q44, .ref q45, .int 1, .int 4, .int 0]))] := hD
  refine lv_iconst (v := 1) hx hb dX9_addClip_90 (by decide) ?_
  refine x_isub (v := 0) hx hb dX9_addClip_91 (by decide) ?_
  exact x_zret hx hb hr rfl rfl hlocks hP hD hS hAe hsz (Nat.le_of_ble_eq_true rfl) (Nat.le_of_ble_eq_true rfl) (fun _ => 0) [0, 1, 2, 3, 4, 5, 6, 7, 8, 9, 10, 11, 12, 13, 14, 15, 16, 17, 18, 19, 20] (by decide) rfl dX9_addClip_92

set_option maxHeartbeats 4000000 in
set_option maxRecDepth 100000 in
theorem c1521_L_addClip (l : Launch) (g : gG) (hlx : l.stackTraces = false) (q1 q6 q26 q30 q33 q35 q43 q44 q45 q46 q54 q55 q56 q57 q60 q61 q64 q65 q72 q73 q78 q79 : Nat) (x2 x3 x4 x5 : Int32) (w16 w17 w18 w19 w20 w21 w22 w23 w24 w25 w40 w41 w42 w76 w77 : Value) (f31 : Nat → Option Nat) (f66 : Nat → Int32) (f67 : Nat → Int32) (f80 : Nat → Int32) (f81 : Nat → Int32) (f113 : Nat → Int64) (hf32 : f31 1 = some q33) (hf34 : f31 0 = some q35) (hf82 : f67 0 = 0) (hf83 : f67 2 = 0) (hf84 : f67 3 = 0) (hf85 : f67 5 = 0) (hf86 : f67 6 = 0) (hf87 : f67 7 = 0) (hf88 : f67 8 = 0) (hf89 : f67 10 = 0) (hf90 : f67 11 = 0) (hf91 : f67 12 = 0) (hf92 : f67 13 = 0) (hf93 : f67 15 = 0) (hf94 : f67 16 = 0) (hf95 : f67 17 = 0) (hf96 : f67 18 = 0) (hf97 : f67 20 = 0) (hf98 : f67 21 = 0) (hf99 : f67 22 = 0) (hf100 : f67 23 = 0) (hf101 : f67 25 = 0) (hf102 : f67 26 = 0) (hf103 : f67 27 = 0) (hf104 : f67 28 = 0) (hf105 : f67 30 = 0) (hf106 : f67 31 = 0) (hf107 : f67 32 = 0) (hf108 : f67 33 = 0) (hf109 : f67 35 = 0) (hf110 : f67 36 = 0) (hf111 : f67 37 = 0) (hf112 : f67 38 = 0) (h7 : (0 : Int32) ≤ x2) (h8 : x2 ≤ 9999) (h9 : (1 : Int32) ≤ x3) (h10 : x3 ≤ 9) (h11 : ((-50) : Int32) ≤ x4) (h12 : x4 ≤ 50) (h13 : (0 : Int32) ≤ x5) (h14 : x5 ≤ 3) (sz : Nat) : Met l yL_addClip [Cond.codeWith yL_addClip cL_addClip 8 (some .int) [(0, 16, 19, 15), (0, 16, 23, 17)]] ({ frames := 6, cells := 0, slots := 0, locals := 174 } : Room) (va_Pc [.ref q1, .int x2, .int 1, .int x3, .int x4, .int x5, .ref q6] (PZ g sz [(q6, .inl (g.2 1, 1, .inr (.inl f113))), (q46, .inl (g.2 0, 20, .inl f81)), (q57, .inl (g.2 0, 20, .inl f81)), (q45, .inl (g.2 0, 60, .inl f66)), (q56, .inl (g.2 0, 60, .inl f66)), (q79, .inl (g.2 0, 10, .inl f80)), (q73, .inl (g.2 0, 10, .inl f80)), (q78, .inl (g.2 0, 10, .inl f66)), (q72, .inl (g.2 0, 10, .inl f66)), (q44, .inr (9, [.ref q78, .ref q79, w76, w77])), (q55, .inr (9, [.ref q72, .ref q73, .int 1, .int 0])), (q65, .inl (g.2 0, 40, .inl f67)), (q61, .inl (g.2 0, 40, .inl f67)), (q64, .inl (g.2 0, 384, .inl f66)), (q60, .inl (g.2 0, 384, .inl f66)), (q43, .inr (5, [.ref q64, .ref q65])), (q54, .inr (5, [.ref q60, .ref q61])), (q35, .inr (8, [.ref q54, .ref q55, .ref q56, .ref q57, .int 0, .int 4, .int 0])), (q33, .inr (8, [.ref q43, .ref q44, .ref q45, .ref q46, w40, w41, w42])), (q30, .inl (g.2 3, 10, .inr (.inr (.inr (.inr f31))))), (q26, .inr (10, [.ref q30, .int 0, .int 0])), (q1, .inr (11, [.ref q26, w16, w17, w18, w19, w20, w21, w22, w23, w24, w25]))])) (QI g [(q6, .inl (g.2 1, 1, .inr (.inl f113))), (q46, .inl (g.2 0, 20, .inl f81)), (q57, .inl (g.2 0, 20, .inl f81)), (q45, .inl (g.2 0, 60, .inl f66)), (q56, .inl (g.2 0, 60, .inl f66)), (q79, .inl (g.2 0, 10, .inl f80)), (q73, .inl (g.2 0, 10, .inl f80)), (q78, .inl (g.2 0, 10, .inl f66)), (q72, .inl (g.2 0, 10, .inl f66)), (q44, .inr (9, [.ref q78, .ref q79, w76, w77])), (q55, .inr (9, [.ref q72, .ref q73, .int 1, .int 0])), (q65, .inl (g.2 0, 40, .inl f67)), (q61, .inl (g.2 0, 40, .inl f67)), (q64, .inl (g.2 0, 384, .inl f66)), (q60, .inl (g.2 0, 384, .inl f66)), (q43, .inr (5, [.ref q64, .ref q65])), (q54, .inr (5, [.ref q60, .ref q61])), (q35, .inr (8, [.ref q54, .ref q55, .ref q56, .ref q57, .int 0, .int 4, .int 0])), (q33, .inr (8, [.ref q43, .ref q44, .ref q45, .ref q46, w40, w41, w42])), (q30, .inl (g.2 3, 10, .inr (.inr (.inr (.inr f31))))), (q26, .inr (10, [.ref q30, .int 0, .int 0])), (q1, .inr (11, [.ref q26, w16, w17, w18, w19, w20, w21, w22, w23, w24, w25]))] sz 0 (fun _ => [(q6, .inl (g.2 1, 1, .inr (.inl (vp_updL f113 0 0))))])) 0 0 (va_A [(q6, .inl (g.2 1, 1, .inr (.inl f113))), (q46, .inl (g.2 0, 20, .inl f81)), (q57, .inl (g.2 0, 20, .inl f81)), (q45, .inl (g.2 0, 60, .inl f66)), (q56, .inl (g.2 0, 60, .inl f66)), (q79, .inl (g.2 0, 10, .inl f80)), (q73, .inl (g.2 0, 10, .inl f80)), (q78, .inl (g.2 0, 10, .inl f66)), (q72, .inl (g.2 0, 10, .inl f66)), (q44, .inr (9, [.ref q78, .ref q79, w76, w77])), (q55, .inr (9, [.ref q72, .ref q73, .int 1, .int 0])), (q65, .inl (g.2 0, 40, .inl f67)), (q61, .inl (g.2 0, 40, .inl f67)), (q64, .inl (g.2 0, 384, .inl f66)), (q60, .inl (g.2 0, 384, .inl f66)), (q43, .inr (5, [.ref q64, .ref q65])), (q54, .inr (5, [.ref q60, .ref q61])), (q35, .inr (8, [.ref q54, .ref q55, .ref q56, .ref q57, .int 0, .int 4, .int 0])), (q33, .inr (8, [.ref q43, .ref q44, .ref q45, .ref q46, w40, w41, w42])), (q30, .inl (g.2 3, 10, .inr (.inr (.inr (.inr f31))))), (q26, .inr (10, [.ref q30, .int 0, .int 0])), (q1, .inr (11, [.ref q26, w16, w17, w18, w19, w20, w21, w22, w23, w24, w25]))] sz) := by
  refine ofH (by decide) (Nat.le_of_ble_eq_true rfl) rfl ?_
  intro p e s m args below meth c A ls hAe hsz hx hb hml hr hlocks hin hown hE hP hD hA hS hl htb hz
  have hown : s.vm.findClass RL = some m.cls := hown
  refine lv_aload hx hb dL_addClip_0 (lv_at hl 6 rfl) ?_
  refine lv_iconst (v := 0) hx hb dL_addClip_2 (by decide) ?_
  refine lv_aload_n hx hb dL_addClip_3 rfl (lv_at hl 0 rfl) ?_
  refine lv_iload_n hx hb dL_addClip_4 rfl (lv_at hl 1 rfl) ?_
  refine lv_iload_n hx hb dL_addClip_5 rfl (lv_at hl 2 rfl) ?_
  refine lv_iload_n hx hb dL_addClip_6 rfl (lv_at hl 3 rfl) ?_
  refine lv_iload hx hb dL_addClip_7 (lv_at hl 4 rfl) ?_
  refine lv_iload hx hb dL_addClip_9 (lv_at hl 5 rfl) ?_
  refine g_i (wr := [(q6, .inl (g.2 1, 1, .inr (.inl f113)))]) (rV (rest := [.int 0, .ref q6]) hx hb hml hown hE hP hD 21 rfl rfl (c1520_X9_addClip l g q1 q26 q30 q33 q35 q43 q44 q45 q46 q54 q55 q56 q57 q60 q61 q64 q65 q72 q73 q78 q79 x2 x3 x4 x5 w16 w17 w18 w19 w20 w21 w22 w23 w24 w25 w40 w41 w42 w76 w77 f31 f66 f67 f80 f81 (hf32) (hf34) (hf82) (hf83) (hf84) (hf85) (hf86) (hf87) (hf88) (hf89) (hf90) (hf91) (hf92) (hf93) (hf94) (hf95) (hf96) (hf97) (hf98) (hf99) (hf100) (hf101) (hf102) (hf103) (hf104) (hf105) (hf106) (hf107) (hf108) (hf109) (hf110) (hf111) (hf112) h7 h8 h9 h10 h11 h12 h13 h14 s.heap.size) (kV_X9_addClip hE (e803 hE) rfl rfl ⟨(Nat.le_of_ble_eq_true rfl), (Nat.le_of_ble_eq_true rfl)⟩) [1, 2, 3, 4, 5, 6, 7, 8, 9, 10, 11, 12, 13, 14, 15, 16, 17, 18, 19, 20, 21] rfl (by decide) rfl hl.1 rfl (lv_room (Nat.le_of_ble_eq_true rfl)) dL_addClip_11 ⟨(Nat.le_of_ble_eq_true rfl), (Nat.le_of_ble_eq_true rfl)⟩) hP hD hS hA [1, 2, 3, 4, 5, 6, 7, 8, 9, 10, 11, 12, 13, 14, 15, 16, 17, 18, 19, 20, 21] [0] rfl rfl (by decide) (by decide) (fun u1 H locs hP hD hS => ?_)
  have hP : va_P g.1 vwCl [(q6, .inl (g.2 1, 1, .inr (.inl f113))), (q30, .inl (g.2 3, 10, .inr (.inr (.inr (.inr f31))))), (q35, .inr (8, [.ref q54, .ref q55, .ref q56, .ref q57, .int 0, .int 4, .int 0])), (q54, .inr (5, [.ref q60, .ref q61])), (q64, .inl (g.2 0, 384, .inl f66)), (q60, .inl (g.2 0, 384, .inl f66)), (q61, .inl (g.2 0, 40, .inl f67)), (q44, .inr (9, [.ref q78, .ref q79, .int 1, .int 0])), (q55, .inr (9, [.ref q72, .ref q73, .int 1, .int 0])), (q78, .inl (g.2 0, 10, .inl f66)), (q72, .inl (g.2 0, 10, .inl f66)), (q79, .inl (g.2 0, 10, .inl f80)), (q73, .inl (g.2 0, 10, .inl f80)), (q56, .inl (g.2 0, 60, .inl f66)), (q46, .inl (g.2 0, 20, .inl f81)), (q57, .inl (g.2 0, 20, .inl f81)), (q45, .inl (g.2 0, 60, .inl (upd (upd (upd (upd (upd f66 0 x2) 1 1) 2 x3) 3 x4) 4 x5))), (q65, .inl (g.2 0, 40, .inl (upd (upd (upd (upd (upd (upd (upd (upd (upd f67 1 0) 4 1) 9 1) 14 1) 19 1) 24 1) 29 1) 34 1) 39 1))), (q43, .inr (5, [.ref q64, .ref q65])), (q26, .inr (10, [.ref q30, .int 1, .int 1])), (q1, .inr (11, [.ref q26, w16, w17, w18, w19, w20, w21, w22, .int 0, .int 0, w25])), (q33, .inr (8, [.ref q43, .ref q44, .ref q45, .ref q46, .int 1, .int 4, .int 0]))] H := hP
  have hD : va_D A [(q6, .inl (g.2 1, 1, .inr (.inl f113))), (q30, .inl (g.2 3, 10, .inr (.inr (.inr (.inr f31))))), (q35, .inr (8, [.ref q54, .ref q55, .ref q56, .ref q57, .int 0, .int 4, .int 0])), (q54, .inr (5, [.ref q60, .ref q61])), (q64, .inl (g.2 0, 384, .inl f66)), (q60, .inl (g.2 0, 384, .inl f66)), (q61, .inl (g.2 0, 40, .inl f67)), (q44, .inr (9, [.ref q78, .ref q79, .int 1, .int 0])), (q55, .inr (9, [.ref q72, .ref q73, .int 1, .int 0])), (q78, .inl (g.2 0, 10, .inl f66)), (q72, .inl (g.2 0, 10, .inl f66)), (q79, .inl (g.2 0, 10, .inl f80)), (q73, .inl (g.2 0, 10, .inl f80)), (q56, .inl (g.2 0, 60, .inl f66)), (q46, .inl (g.2 0, 20, .inl f81)), (q57, .inl (g.2 0, 20, .inl f81)), (q45, .inl (g.2 0, 60, .inl (upd (upd (upd (upd (upd f66 0 x2) 1 1) 2 x3) 3 x4) 4 x5))), (q65, .inl (g.2 0, 40, .inl (upd (upd (upd (upd (upd (upd (upd (upd (upd f67 1 0) 4 1) 9 1) 14 1) 19 1) 24 1) 29 1) 34 1) 39 1))), (q43, .inr (5, [.ref q64, .ref q65])), (q26, .inr (10, [.ref q30, .int 1, .int 1])), (q1, .inr (11, [.ref q26, w16, w17, w18, w19, w20, w21, w22, .int 0, .int 0, w25])), (q33, .inr (8, [.ref q43, .ref q44, .ref q45, .ref q46, .int 1, .int 4, .int 0]))] := hD
  refine lv_i2l (v := 0) hx hb dL_addClip_14 (by decide) ?_
  refine x_last (ws' := [(q6, .inl (g.2 1, 1, .inr (.inl (vp_updL f113 0 0)))), (q30, .inl (g.2 3, 10, .inr (.inr (.inr (.inr f31))))), (q35, .inr (8, [.ref q54, .ref q55, .ref q56, .ref q57, .int 0, .int 4, .int 0])), (q54, .inr (5, [.ref q60, .ref q61])), (q64, .inl (g.2 0, 384, .inl f66)), (q60, .inl (g.2 0, 384, .inl f66)), (q61, .inl (g.2 0, 40, .inl f67)), (q44, .inr (9, [.ref q78, .ref q79, .int 1, .int 0])), (q55, .inr (9, [.ref q72, .ref q73, .int 1, .int 0])), (q78, .inl (g.2 0, 10, .inl f66)), (q72, .inl (g.2 0, 10, .inl f66)), (q79, .inl (g.2 0, 10, .inl f80)), (q73, .inl (g.2 0, 10, .inl f80)), (q56, .inl (g.2 0, 60, .inl f66)), (q46, .inl (g.2 0, 20, .inl f81)), (q57, .inl (g.2 0, 20, .inl f81)), (q45, .inl (g.2 0, 60, .inl (upd (upd (upd (upd (upd f66 0 x2) 1 1) 2 x3) 3 x4) 4 x5))), (q65, .inl (g.2 0, 40, .inl (upd (upd (upd (upd (upd (upd (upd (upd (upd f67 1 0) 4 1) 9 1) 14 1) 19 1) 24 1) 29 1) 34 1) 39 1))), (q43, .inr (5, [.ref q64, .ref q65])), (q26, .inr (10, [.ref q30, .int 1, .int 1])), (q1, .inr (11, [.ref q26, w16, w17, w18, w19, w20, w21, w22, .int 0, .int 0, w25])), (q33, .inr (8, [.ref q43, .ref q44, .ref q45, .ref q46, .int 1, .int 4, .int 0]))]) hx hb hE hP hD hS 0 rfl 0 (x_in (by decide)) (by decide) dL_addClip_15 rfl (fun H locs hP hD hS => ?_)
  refine lv_goto (tgt := 27) hx hb dL_addClip_16 (by decide) ?_
  refine lv_iconst (v := 0) hx hb dL_addClip_27 (by decide) ?_
  exact x_zret hx hb hr rfl rfl hlocks hP hD hS hAe hsz (Nat.le_of_ble_eq_true rfl) (Nat.le_of_ble_eq_true rfl) (fun _ => 0) [0] (by decide) rfl dL_addClip_28

set_option maxHeartbeats 4000000 in
set_option maxRecDepth 100000 in
theorem c1522_X10_ofClip (l : Launch) (g : gG) (q1 q39 : Nat) (w3 w4 w5 w6 w7 w8 w9 w10 w11 w12 w13 w14 w15 w16 w17 w18 w19 w20 w21 w22 w23 w24 w25 w26 w27 w28 w29 w30 w31 w32 w33 w34 w35 w36 w37 w38 : Value) (f40 : Nat → Int32) (hf41 : f40 394 = 1) (sz : Nat) : Met l yX10_ofClip [Cond.code yX10_ofClip cX10_ofClip 3 (some .int)] ({ frames := 0, cells := 0, slots := 0, locals := 0 } : Room) (va_Pc [.ref q1, .int 0, .int 1] (PX g sz [(q39, .inl (g.2 0, 497, .inl f40)), (q1, .inr (12, [.ref q39, w3, w4, w5, w6, w7, w8, w9, w10, w11, w12, w13, w14, w15, w16, w17, w18, w19, w20, w21, w22, w23, w24, w25, w26, w27, w28, w29, w30, w31, w32, w33, w34, w35, w36, w37, w38]))])) (QI g [(q39, .inl (g.2 0, 497, .inl f40)), (q1, .inr (12, [.ref q39, w3, w4, w5, w6, w7, w8, w9, w10, w11, w12, w13, w14, w15, w16, w17, w18, w19, w20, w21, w22, w23, w24, w25, w26, w27, w28, w29, w30, w31, w32, w33, w34, w35, w36, w37, w38]))] sz 1 (fun _ => [(q39, .inl (g.2 0, 497, .inl f40)), (q1, .inr (12, [.ref q39, w3, w4, w5, w6, w7, w8, w9, w10, w11, w12, w13, w14, w15, w16, w17, w18, w19, w20, w21, w22, w23, w24, w25, w26, w27, w28, w29, w30, w31, w32, w33, w34, w35, w36, w37, w38]))])) 0 0 (va_A [(q39, .inl (g.2 0, 497, .inl f40)), (q1, .inr (12, [.ref q39, w3, w4, w5, w6, w7, w8, w9, w10, w11, w12, w13, w14, w15, w16, w17, w18, w19, w20, w21, w22, w23, w24, w25, w26, w27, w28, w29, w30, w31, w32, w33, w34, w35, w36, w37, w38]))] sz) := by
  refine ofN (by decide) (Nat.le_of_ble_eq_true rfl) rfl ?_
  intro p e s m args below meth c A ls hAe hsz hx hb hml hr hlocks hin hown hE hP hD hA hS hl
  have hown : s.vm.findClass RX10 = some m.cls := hown
  refine lv_aload_n hx hb dX10_ofClip_0 rfl (lv_at hl 0 rfl) ?_
  refine gf_RX10_9 hx hb hown hE hP 1 rfl rfl dX10_ofClip_1 ?_
  refine lv_sipush (v := 393) hx hb dX10_ofClip_4 (by decide) ?_
  refine lv_iconst (v := 5) hx hb dX10_ofClip_7 (by decide) ?_
  refine lv_iload_n hx hb dX10_ofClip_8 rfl (lv_at hl 1 rfl) ?_
  refine x_imul (v := 0) hx hb dX10_ofClip_9 (by decide) ?_
  refine x_iadd (v := 393) hx hb dX10_ofClip_10 (by decide) ?_
  refine lv_iload_n hx hb dX10_ofClip_11 rfl (lv_at hl 2 rfl) ?_
  refine x_iadd (v := 394) hx hb dX10_ofClip_12 (by decide) ?_
  refine x_iald (v := 1) hx hb hE hP 0 rfl 394 (x_in (by decide)) (by decide) hf41 dX10_ofClip_13 ?_
  exact x_zret hx hb hr rfl rfl hlocks hP hD hS hAe hsz (Nat.le_of_ble_eq_true rfl) (Nat.le_of_ble_eq_true rfl) (fun _ => 0) [0, 1] (by decide) rfl dX10_ofClip_14

set_option maxHeartbeats 4000000 in
set_option maxRecDepth 100000 in
theorem c1523_X10_isTooGreat (l : Launch) (g : gG) (q1 q39 q40 q41 : Nat) (x62 : Int32) (w3 w4 w5 w6 w7 w8 w11 w12 w13 w14 w15 w16 w17 w18 w19 w20 w21 w22 w23 w24 w25 w26 w27 w28 w29 w30 w31 w32 w33 w34 w35 w36 w37 w38 : Value) (f42 : Nat → Int32) (f51 : Nat → Int32) (hf43 : f42 0 = 0) (hf44 : f42 49 = 0) (hf45 : f42 98 = 0) (hf46 : f42 147 = 0) (hf47 : f42 196 = 0) (hf48 : f42 245 = 0) (hf49 : f42 294 = 0) (hf50 : f42 343 = 0) (hf52 : f51 0 = 0) (hf53 : f51 1 = 0) (hf54 : f51 2 = 0) (hf55 : f51 3 = 0) (hf56 : f51 4 = 0) (hf57 : f51 5 = 0) (hf58 : f51 6 = 0) (hf59 : f51 7 = 0) (hf60 : f42 392 = 1) (hf61 : f42 395 = x62) (hf63 : f42 394 = 1) (sz : Nat) : Met l yX10_isTooGreat [Cond.code yX10_isTooGreat cX10_isTooGreat 4 (some .boolean)] ({ frames := 3, cells := 0, slots := 0, locals := 66 } : Room) (va_Pc [.ref q1] (PX g sz [(q41, .inl (g.2 0, 8, .inl f51)), (q40, .inl (g.2 0, 8, .inl f51)), (q39, .inl (g.2 0, 497, .inl f42)), (q1, .inr (12, [.ref q39, w3, w4, w5, w6, w7, w8, .ref q40, .ref q41, w11, w12, w13, w14, w15, w16, w17, w18, w19, w20, w21, w22, w23, w24, w25, w26, w27, w28, w29, w30, w31, w32, w33, w34, w35, w36, w37, w38]))])) (QI g [(q41, .inl (g.2 0, 8, .inl f51)), (q40, .inl (g.2 0, 8, .inl f51)), (q39, .inl (g.2 0, 497, .inl f42)), (q1, .inr (12, [.ref q39, w3, w4, w5, w6, w7, w8, .ref q40, .ref q41, w11, w12, w13, w14, w15, w16, w17, w18, w19, w20, w21, w22, w23, w24, w25, w26, w27, w28, w29, w30, w31, w32, w33, w34, w35, w36, w37, w38]))] sz 0 (fun _ => [(q41, .inl (g.2 0, 8, .inl f51)), (q40, .inl (g.2 0, 8, .inl f51)), (q39, .inl (g.2 0, 497, .inl f42)), (q1, .inr (12, [.ref q39, w3, w4, w5, w6, w7, w8, .ref q40, .ref q41, w11, w12, w13, w14, w15, w16, w17, w18, w19, w20, w21, w22, w23, w24, w25, w26, w27, w28, w29, w30, w31, w32, w33, w34, w35, w36, w37, w38]))])) 0 0 (va_A [(q41, .inl (g.2 0, 8, .inl f51)), (q40, .inl (g.2 0, 8, .inl f51)), (q39, .inl (g.2 0, 497, .inl f42)), (q1, .inr (12, [.ref q39, w3, w4, w5, w6, w7, w8, .ref q40, .ref q41, w11, w12, w13, w14, w15, w16, w17, w18, w19, w20, w21, w22, w23, w24, w25, w26, w27, w28, w29, w30, w31, w32, w33, w34, w35, w36, w37, w38]))] sz) := by
  refine ofN (by decide) (Nat.le_of_ble_eq_true rfl) rfl ?_
  intro p e s m args below meth c A ls hAe hsz hx hb hml hr hlocks hin hown hE hP hD hA hS hl
  have hown : s.vm.findClass RX10 = some m.cls := hown
  refine lv_aload_n hx hb dX10_isTooGreat_0 rfl (lv_at hl 0 rfl) ?_
  refine g_v (wr := []) (rV (rest := []) hx hb hml hown hE hP hD 3 rfl rfl (c1241_X10_layLengths l g q1 q39 q40 q41 w3 w4 w5 w6 w7 w8 w11 w12 w13 w14 w15 w16 w17 w18 w19 w20 w21 w22 w23 w24 w25 w26 w27 w28 w29 w30 w31 w32 w33 w34 w35 w36 w37 w38 f42 f51 (hf43) (hf52) (hf44) (hf53) (hf45) (hf54) (hf46) (hf55) (hf47) (hf56) (hf48) (hf57) (hf49) (hf58) (hf50) (hf59) s.heap.size) (kV_X10_layLengths hE (e1452 hE) rfl rfl ⟨(Nat.le_of_ble_eq_true rfl), (Nat.le_of_ble_eq_true rfl)⟩) [0, 1, 2, 3] rfl (by decide) rfl hl.1 rfl (lv_room (Nat.le_of_ble_eq_true rfl)) dX10_isTooGreat_1 ⟨(Nat.le_of_ble_eq_true rfl), (Nat.le_of_ble_eq_true rfl)⟩) hP hD hS hA [0, 1, 2, 3] [] rfl rfl (by decide) (by decide) (fun u1 H locs hP hD hS => ?_)
  have hP : va_P g.1 vwCl [(q41, .inl (g.2 0, 8, .inl f51)), (q40, .inl (g.2 0, 8, .inl f51)), (q39, .inl (g.2 0, 497, .inl f42)), (q1, .inr (12, [.ref q39, w3, w4, w5, w6, w7, w8, .ref q40, .ref q41, w11, w12, w13, w14, w15, w16, w17, w18, w19, w20, w21, w22, w23, w24, w25, w26, w27, w28, w29, w30, w31, w32, w33, w34, w35, w36, w37, w38]))] H := hP
  have hD : va_D A [(q41, .inl (g.2 0, 8, .inl f51)), (q40, .inl (g.2 0, 8, .inl f51)), (q39, .inl (g.2 0, 497, .inl f42)), (q1, .inr (12, [.ref q39, w3, w4, w5, w6, w7, w8, .ref q40, .ref q41, w11, w12, w13, w14, w15, w16, w17, w18, w19, w20, w21, w22, w23, w24, w25, w26, w27, w28, w29, w30, w31, w32, w33, w34, w35, w36, w37, w38]))] := hD
  refine lv_iconst (v := 0) hx hb dX10_isTooGreat_4 (by decide) ?_
  refine lv_istore_n (lv' := [(1, .int 0), (0, .ref q1)]) hx hb dX10_isTooGreat_5 rfl hl (by decide) rfl (fun ls hl => ?_)
  refine lv_iconst (v := 0) hx hb dX10_isTooGreat_6 (by decide) ?_
  refine lv_istore_n (lv' := [(2, .int 0), (1, .int 0), (0, .ref q1)]) hx hb dX10_isTooGreat_7 rfl hl (by decide) rfl (fun ls hl => ?_)
  refine lv_iload_n hx hb dX10_isTooGreat_8 rfl (lv_at hl 0 rfl) ?_
  refine lv_bipush (v := 8) hx hb dX10_isTooGreat_9 (by decide) ?_
  refine lv_icmp_ge (tgt := 40) hx hb dX10_isTooGreat_11 (by decide) (fun h => absurd h (by decide)) (fun _ => ?_)
  refine lv_iload_n hx hb dX10_isTooGreat_14 rfl (lv_at hl 1 rfl) ?_
  refine lv_aload_n hx hb dX10_isTooGreat_15 rfl (lv_at hl 2 rfl) ?_
  refine gf_RX10_22 hx hb hown hE hP 3 rfl rfl dX10_isTooGreat_16 ?_
  refine lv_iload_n hx hb dX10_isTooGreat_19 rfl (lv_at hl 0 rfl) ?_
  refine x_iald (v := 0) hx hb hE hP 1 rfl 0 (x_in (by decide)) (by decide) hf52 dX10_isTooGreat_20 ?_
  refine lv_sipush (v := 20000) hx hb dX10_isTooGreat_21 (by decide) ?_
  refine lv_icmp_le (tgt := 31) hx hb dX10_isTooGreat_24 (by decide) (fun _ => ?_) (fun h => absurd (by decide) h)
  refine lv_iconst (v := 0) hx hb dX10_isTooGreat_31 (by decide) ?_
  refine x_ior (v := 0) hx hb dX10_isTooGreat_32 (by decide) ?_
  refine lv_istore_n (lv' := [(1, .int 0), (2, .int 0), (0, .ref q1)]) hx hb dX10_isTooGreat_33 rfl hl (by decide) rfl (fun ls hl => ?_)
  refine lv_iinc (v := 1) (lv' := [(2, .int 1), (1, .int 0), (0, .ref q1)]) hx hb dX10_isTooGreat_34 hl (k := 1) rfl (by decide) (by decide) rfl (fun ls hl => ?_)
  refine lv_goto (tgt := 8) hx hb dX10_isTooGreat_37 (by decide) ?_
  refine lv_iload_n hx hb dX10_isTooGreat_8 rfl (lv_at hl 0 rfl) ?_
  refine lv_bipush (v := 8) hx hb dX10_isTooGreat_9 (by decide) ?_
  refine lv_icmp_ge (tgt := 40) hx hb dX10_isTooGreat_11 (by decide) (fun h => absurd h (by decide)) (fun _ => ?_)
  refine lv_iload_n hx hb dX10_isTooGreat_14 rfl (lv_at hl 1 rfl) ?_
  refine lv_aload_n hx hb dX10_isTooGreat_15 rfl (lv_at hl 2 rfl) ?_
  refine gf_RX10_22 hx hb hown hE hP 3 rfl rfl dX10_isTooGreat_16 ?_
  refine lv_iload_n hx hb dX10_isTooGreat_19 rfl (lv_at hl 0 rfl) ?_
  refine x_iald (v := 0) hx hb hE hP 1 rfl 1 (x_in (by decide)) (by decide) hf53 dX10_isTooGreat_20 ?_
  refine lv_sipush (v := 20000) hx hb dX10_isTooGreat_21 (by decide) ?_
  refine lv_icmp_le (tgt := 31) hx hb dX10_isTooGreat_24 (by decide) (fun _ => ?_) (fun h => absurd (by decide) h)
  refine lv_iconst (v := 0) hx hb dX10_isTooGreat_31 (by decide) ?_
  refine x_ior (v := 0) hx hb dX10_isTooGreat_32 (by decide) ?_
  refine lv_istore_n (lv' := [(1, .int 0), (2, .int 1), (0, .ref q1)]) hx hb dX10_isTooGreat_33 rfl hl (by decide) rfl (fun ls hl => ?_)
  refine lv_iinc (v := 2) (lv' := [(2, .int 2), (1, .int 0), (0, .ref q1)]) hx hb dX10_isTooGreat_34 hl (k := 1) rfl (by decide) (by decide) rfl (fun ls hl => ?_)
  refine lv_goto (tgt := 8) hx hb dX10_isTooGreat_37 (by decide) ?_
  refine lv_iload_n hx hb dX10_isTooGreat_8 rfl (lv_at hl 0 rfl) ?_
  refine lv_bipush (v := 8) hx hb dX10_isTooGreat_9 (by decide) ?_
  refine lv_icmp_ge (tgt := 40) hx hb dX10_isTooGreat_11 (by decide) (fun h => absurd h (by decide)) (fun _ => ?_)
  refine lv_iload_n hx hb dX10_isTooGreat_14 rfl (lv_at hl 1 rfl) ?_
  refine lv_aload_n hx hb dX10_isTooGreat_15 rfl (lv_at hl 2 rfl) ?_
  refine gf_RX10_22 hx hb hown hE hP 3 rfl rfl dX10_isTooGreat_16 ?_
  refine lv_iload_n hx hb dX10_isTooGreat_19 rfl (lv_at hl 0 rfl) ?_
  refine x_iald (v := 0) hx hb hE hP 1 rfl 2 (x_in (by decide)) (by decide) hf54 dX10_isTooGreat_20 ?_
  refine lv_sipush (v := 20000) hx hb dX10_isTooGreat_21 (by decide) ?_
  refine lv_icmp_le (tgt := 31) hx hb dX10_isTooGreat_24 (by decide) (fun _ => ?_) (fun h => absurd (by decide) h)
  refine lv_iconst (v := 0) hx hb dX10_isTooGreat_31 (by decide) ?_
  refine x_ior (v := 0) hx hb dX10_isTooGreat_32 (by decide) ?_
  refine lv_istore_n (lv' := [(1, .int 0), (2, .int 2), (0, .ref q1)]) hx hb dX10_isTooGreat_33 rfl hl (by decide) rfl (fun ls hl => ?_)
  refine lv_iinc (v := 3) (lv' := [(2, .int 3), (1, .int 0), (0, .ref q1)]) hx hb dX10_isTooGreat_34 hl (k := 1) rfl (by decide) (by decide) rfl (fun ls hl => ?_)
  refine lv_goto (tgt := 8) hx hb dX10_isTooGreat_37 (by decide) ?_
  refine lv_iload_n hx hb dX10_isTooGreat_8 rfl (lv_at hl 0 rfl) ?_
  refine lv_bipush (v := 8) hx hb dX10_isTooGreat_9 (by decide) ?_
  refine lv_icmp_ge (tgt := 40) hx hb dX10_isTooGreat_11 (by decide) (fun h => absurd h (by decide)) (fun _ => ?_)
  refine lv_iload_n hx hb dX10_isTooGreat_14 rfl (lv_at hl 1 rfl) ?_
  refine lv_aload_n hx hb dX10_isTooGreat_15 rfl (lv_at hl 2 rfl) ?_
  refine gf_RX10_22 hx hb hown hE hP 3 rfl rfl dX10_isTooGreat_16 ?_
  refine lv_iload_n hx hb dX10_isTooGreat_19 rfl (lv_at hl 0 rfl) ?_
  refine x_iald (v := 0) hx hb hE hP 1 rfl 3 (x_in (by decide)) (by decide) hf55 dX10_isTooGreat_20 ?_
  refine lv_sipush (v := 20000) hx hb dX10_isTooGreat_21 (by decide) ?_
  refine lv_icmp_le (tgt := 31) hx hb dX10_isTooGreat_24 (by decide) (fun _ => ?_) (fun h => absurd (by decide) h)
  refine lv_iconst (v := 0) hx hb dX10_isTooGreat_31 (by decide) ?_
  refine x_ior (v := 0) hx hb dX10_isTooGreat_32 (by decide) ?_
  refine lv_istore_n (lv' := [(1, .int 0), (2, .int 3), (0, .ref q1)]) hx hb dX10_isTooGreat_33 rfl hl (by decide) rfl (fun ls hl => ?_)
  refine lv_iinc (v := 4) (lv' := [(2, .int 4), (1, .int 0), (0, .ref q1)]) hx hb dX10_isTooGreat_34 hl (k := 1) rfl (by decide) (by decide) rfl (fun ls hl => ?_)
  refine lv_goto (tgt := 8) hx hb dX10_isTooGreat_37 (by decide) ?_
  refine lv_iload_n hx hb dX10_isTooGreat_8 rfl (lv_at hl 0 rfl) ?_
  refine lv_bipush (v := 8) hx hb dX10_isTooGreat_9 (by decide) ?_
  refine lv_icmp_ge (tgt := 40) hx hb dX10_isTooGreat_11 (by decide) (fun h => absurd h (by decide)) (fun _ => ?_)
  refine lv_iload_n hx hb dX10_isTooGreat_14 rfl (lv_at hl 1 rfl) ?_
  refine lv_aload_n hx hb dX10_isTooGreat_15 rfl (lv_at hl 2 rfl) ?_
  refine gf_RX10_22 hx hb hown hE hP 3 rfl rfl dX10_isTooGreat_16 ?_
  refine lv_iload_n hx hb dX10_isTooGreat_19 rfl (lv_at hl 0 rfl) ?_
  refine x_iald (v := 0) hx hb hE hP 1 rfl 4 (x_in (by decide)) (by decide) hf56 dX10_isTooGreat_20 ?_
  refine lv_sipush (v := 20000) hx hb dX10_isTooGreat_21 (by decide) ?_
  refine lv_icmp_le (tgt := 31) hx hb dX10_isTooGreat_24 (by decide) (fun _ => ?_) (fun h => absurd (by decide) h)
  refine lv_iconst (v := 0) hx hb dX10_isTooGreat_31 (by decide) ?_
  refine x_ior (v := 0) hx hb dX10_isTooGreat_32 (by decide) ?_
  refine lv_istore_n (lv' := [(1, .int 0), (2, .int 4), (0, .ref q1)]) hx hb dX10_isTooGreat_33 rfl hl (by decide) rfl (fun ls hl => ?_)
  refine lv_iinc (v := 5) (lv' := [(2, .int 5), (1, .int 0), (0, .ref q1)]) hx hb dX10_isTooGreat_34 hl (k := 1) rfl (by decide) (by decide) rfl (fun ls hl => ?_)
  refine lv_goto (tgt := 8) hx hb dX10_isTooGreat_37 (by decide) ?_
  refine lv_iload_n hx hb dX10_isTooGreat_8 rfl (lv_at hl 0 rfl) ?_
  refine lv_bipush (v := 8) hx hb dX10_isTooGreat_9 (by decide) ?_
  refine lv_icmp_ge (tgt := 40) hx hb dX10_isTooGreat_11 (by decide) (fun h => absurd h (by decide)) (fun _ => ?_)
  refine lv_iload_n hx hb dX10_isTooGreat_14 rfl (lv_at hl 1 rfl) ?_
  refine lv_aload_n hx hb dX10_isTooGreat_15 rfl (lv_at hl 2 rfl) ?_
  refine gf_RX10_22 hx hb hown hE hP 3 rfl rfl dX10_isTooGreat_16 ?_
  refine lv_iload_n hx hb dX10_isTooGreat_19 rfl (lv_at hl 0 rfl) ?_
  refine x_iald (v := 0) hx hb hE hP 1 rfl 5 (x_in (by decide)) (by decide) hf57 dX10_isTooGreat_20 ?_
  refine lv_sipush (v := 20000) hx hb dX10_isTooGreat_21 (by decide) ?_
  refine lv_icmp_le (tgt := 31) hx hb dX10_isTooGreat_24 (by decide) (fun _ => ?_) (fun h => absurd (by decide) h)
  refine lv_iconst (v := 0) hx hb dX10_isTooGreat_31 (by decide) ?_
  refine x_ior (v := 0) hx hb dX10_isTooGreat_32 (by decide) ?_
  refine lv_istore_n (lv' := [(1, .int 0), (2, .int 5), (0, .ref q1)]) hx hb dX10_isTooGreat_33 rfl hl (by decide) rfl (fun ls hl => ?_)
  refine lv_iinc (v := 6) (lv' := [(2, .int 6), (1, .int 0), (0, .ref q1)]) hx hb dX10_isTooGreat_34 hl (k := 1) rfl (by decide) (by decide) rfl (fun ls hl => ?_)
  refine lv_goto (tgt := 8) hx hb dX10_isTooGreat_37 (by decide) ?_
  refine lv_iload_n hx hb dX10_isTooGreat_8 rfl (lv_at hl 0 rfl) ?_
  refine lv_bipush (v := 8) hx hb dX10_isTooGreat_9 (by decide) ?_
  refine lv_icmp_ge (tgt := 40) hx hb dX10_isTooGreat_11 (by decide) (fun h => absurd h (by decide)) (fun _ => ?_)
  refine lv_iload_n hx hb dX10_isTooGreat_14 rfl (lv_at hl 1 rfl) ?_
  refine lv_aload_n hx hb dX10_isTooGreat_15 rfl (lv_at hl 2 rfl) ?_
  refine gf_RX10_22 hx hb hown hE hP 3 rfl rfl dX10_isTooGreat_16 ?_
  refine lv_iload_n hx hb dX10_isTooGreat_19 rfl (lv_at hl 0 rfl) ?_
  refine x_iald (v := 0) hx hb hE hP 1 rfl 6 (x_in (by decide)) (by decide) hf58 dX10_isTooGreat_20 ?_
  refine lv_sipush (v := 20000) hx hb dX10_isTooGreat_21 (by decide) ?_
  refine lv_icmp_le (tgt := 31) hx hb dX10_isTooGreat_24 (by decide) (fun _ => ?_) (fun h => absurd (by decide) h)
  refine lv_iconst (v := 0) hx hb dX10_isTooGreat_31 (by decide) ?_
  refine x_ior (v := 0) hx hb dX10_isTooGreat_32 (by decide) ?_
  refine lv_istore_n (lv' := [(1, .int 0), (2, .int 6), (0, .ref q1)]) hx hb dX10_isTooGreat_33 rfl hl (by decide) rfl (fun ls hl => ?_)
  refine lv_iinc (v := 7) (lv' := [(2, .int 7), (1, .int 0), (0, .ref q1)]) hx hb dX10_isTooGreat_34 hl (k := 1) rfl (by decide) (by decide) rfl (fun ls hl => ?_)
  refine lv_goto (tgt := 8) hx hb dX10_isTooGreat_37 (by decide) ?_
  refine lv_iload_n hx hb dX10_isTooGreat_8 rfl (lv_at hl 0 rfl) ?_
  refine lv_bipush (v := 8) hx hb dX10_isTooGreat_9 (by decide) ?_
  refine lv_icmp_ge (tgt := 40) hx hb dX10_isTooGreat_11 (by decide) (fun h => absurd h (by decide)) (fun _ => ?_)
  refine lv_iload_n hx hb dX10_isTooGreat_14 rfl (lv_at hl 1 rfl) ?_
  refine lv_aload_n hx hb dX10_isTooGreat_15 rfl (lv_at hl 2 rfl) ?_
  refine gf_RX10_22 hx hb hown hE hP 3 rfl rfl dX10_isTooGreat_16 ?_
  refine lv_iload_n hx hb dX10_isTooGreat_19 rfl (lv_at hl 0 rfl) ?_
  refine x_iald (v := 0) hx hb hE hP 1 rfl 7 (x_in (by decide)) (by decide) hf59 dX10_isTooGreat_20 ?_
  refine lv_sipush (v := 20000) hx hb dX10_isTooGreat_21 (by decide) ?_
  refine lv_icmp_le (tgt := 31) hx hb dX10_isTooGreat_24 (by decide) (fun _ => ?_) (fun h => absurd (by decide) h)
  refine lv_iconst (v := 0) hx hb dX10_isTooGreat_31 (by decide) ?_
  refine x_ior (v := 0) hx hb dX10_isTooGreat_32 (by decide) ?_
  refine lv_istore_n (lv' := [(1, .int 0), (2, .int 7), (0, .ref q1)]) hx hb dX10_isTooGreat_33 rfl hl (by decide) rfl (fun ls hl => ?_)
  refine lv_iinc (v := 8) (lv' := [(2, .int 8), (1, .int 0), (0, .ref q1)]) hx hb dX10_isTooGreat_34 hl (k := 1) rfl (by decide) (by decide) rfl (fun ls hl => ?_)
  refine lv_goto (tgt := 8) hx hb dX10_isTooGreat_37 (by decide) ?_
  refine lv_iload_n hx hb dX10_isTooGreat_8 rfl (lv_at hl 0 rfl) ?_
  refine lv_bipush (v := 8) hx hb dX10_isTooGreat_9 (by decide) ?_
  refine lv_icmp_ge (tgt := 40) hx hb dX10_isTooGreat_11 (by decide) (fun _ => ?_) (fun h => absurd (by decide) h)
  refine lv_iconst (v := 0) hx hb dX10_isTooGreat_40 (by decide) ?_
  refine lv_istore_n (lv' := [(2, .int 0), (1, .int 0), (0, .ref q1)]) hx hb dX10_isTooGreat_41 rfl hl (by decide) rfl (fun ls hl => ?_)
  refine lv_iconst (v := 0) hx hb dX10_isTooGreat_42 (by decide) ?_
  refine lv_istore_n (lv' := [(3, .int 0), (2, .int 0), (1, .int 0), (0, .ref q1)]) hx hb dX10_isTooGreat_43 rfl hl (by decide) rfl (fun ls hl => ?_)
  refine lv_iload_n hx hb dX10_isTooGreat_44 rfl (lv_at hl 0 rfl) ?_
  refine lv_aload_n hx hb dX10_isTooGreat_45 rfl (lv_at hl 3 rfl) ?_
  refine gf_RX10_9 hx hb hown hE hP 3 rfl rfl dX10_isTooGreat_46 ?_
  refine lv_sipush (v := 392) hx hb dX10_isTooGreat_49 (by decide) ?_
  refine x_iald (v := 1) hx hb hE hP 2 rfl 392 (x_in (by decide)) (by decide) hf60 dX10_isTooGreat_52 ?_
  refine lv_icmp_ge (tgt := 115) hx hb dX10_isTooGreat_53 (by decide) (fun h => absurd h (by decide)) (fun _ => ?_)
  refine lv_iload_n hx hb dX10_isTooGreat_56 rfl (lv_at hl 2 rfl) ?_
  refine lv_aload_n hx hb dX10_isTooGreat_57 rfl (lv_at hl 3 rfl) ?_
  refine lv_iload_n hx hb dX10_isTooGreat_58 rfl (lv_at hl 0 rfl) ?_
  refine lv_iconst (v := 2) hx hb dX10_isTooGreat_59 (by decide) ?_
  refine g_i (wr := [(q41, .inl (g.2 0, 8, .inl f51)), (q40, .inl (g.2 0, 8, .inl f51))]) (rV (rest := [.int 0]) hx hb hml hown hE hP hD 3 rfl rfl (c1512_X10_ofClip l g q1 q39 x62 w3 w4 w5 w6 w7 w8 (.ref q40) (.ref q41) w11 w12 w13 w14 w15 w16 w17 w18 w19 w20 w21 w22 w23 w24 w25 w26 w27 w28 w29 w30 w31 w32 w33 w34 w35 w36 w37 w38 f42 (hf61) H.size) (kV_X10_ofClip hE (e1466 hE) rfl rfl ⟨(Nat.le_of_ble_eq_true rfl), (Nat.le_of_ble_eq_true rfl)⟩) [2, 3] rfl (by decide) rfl hl.1 rfl (lv_room (Nat.le_of_ble_eq_true rfl)) dX10_isTooGreat_60 ⟨(Nat.le_of_ble_eq_true rfl), (Nat.le_of_ble_eq_true rfl)⟩) hP hD hS hA [2, 3] [0, 1] rfl rfl (by decide) (by decide) (fun u2 H locs hP hD hS => ?_)
  have hP : va_P g.1 vwCl [(q41, .inl (g.2 0, 8, .inl f51)), (q40, .inl (g.2 0, 8, .inl f51)), (q39, .inl (g.2 0, 497, .inl f42)), (q1, .inr (12, [.ref q39, w3, w4, w5, w6, w7, w8, .ref q40, .ref q41, w11, w12, w13, w14, w15, w16, w17, w18, w19, w20, w21, w22, w23, w24, w25, w26, w27, w28, w29, w30, w31, w32, w33, w34, w35, w36, w37, w38]))] H := hP
  have hD : va_D A [(q41, .inl (g.2 0, 8, .inl f51)), (q40, .inl (g.2 0, 8, .inl f51)), (q39, .inl (g.2 0, 497, .inl f42)), (q1, .inr (12, [.ref q39, w3, w4, w5, w6, w7, w8, .ref q40, .ref q41, w11, w12, w13, w14, w15, w16, w17, w18, w19, w20, w21, w22, w23, w24, w25, w26, w27, w28, w29, w30, w31, w32, w33, w34, w35, w36, w37, w38]))] := hD
  refine lv_aload_n hx hb dX10_isTooGreat_63 rfl (lv_at hl 3 rfl) ?_
  refine gf_RX10_22 hx hb hown hE hP 3 rfl rfl dX10_isTooGreat_64 ?_
  refine lv_aload_n hx hb dX10_isTooGreat_67 rfl (lv_at hl 3 rfl) ?_
  refine lv_iload_n hx hb dX10_isTooGreat_68 rfl (lv_at hl 0 rfl) ?_
  refine lv_iconst (v := 1) hx hb dX10_isTooGreat_69 (by decide) ?_
  refine g_i (wr := [(q41, .inl (g.2 0, 8, .inl f51)), (q40, .inl (g.2 0, 8, .inl f51))]) (rV (rest := [.ref q40, .int x62, .int 0]) hx hb hml hown hE hP hD 3 rfl rfl (c1522_X10_ofClip l g q1 q39 w3 w4 w5 w6 w7 w8 (.ref q40) (.ref q41) w11 w12 w13 w14 w15 w16 w17 w18 w19 w20 w21 w22 w23 w24 w25 w26 w27 w28 w29 w30 w31 w32 w33 w34 w35 w36 w37 w38 f42 (hf63) H.size) (kV_X10_ofClip hE (e1466 hE) rfl rfl ⟨(Nat.le_of_ble_eq_true rfl), (Nat.le_of_ble_eq_true rfl)⟩) [2, 3] rfl (by decide) rfl hl.1 rfl (lv_room (Nat.le_of_ble_eq_true rfl)) dX10_isTooGreat_70 ⟨(Nat.le_of_ble_eq_true rfl), (Nat.le_of_ble_eq_true rfl)⟩) hP hD hS hA [2, 3] [0, 1] rfl rfl (by decide) (by decide) (fun u3 H locs hP hD hS => ?_)
  have hP : va_P g.1 vwCl [(q41, .inl (g.2 0, 8, .inl f51)), (q40, .inl (g.2 0, 8, .inl f51)), (q39, .inl (g.2 0, 497, .inl f42)), (q1, .inr (12, [.ref q39, w3, w4, w5, w6, w7, w8, .ref q40, .ref q41, w11, w12, w13, w14, w15, w16, w17, w18, w19, w20, w21, w22, w23, w24, w25, w26, w27, w28, w29, w30, w31, w32, w33, w34, w35, w36, w37, w38]))] H := hP
  have hD : va_D A [(q41, .inl (g.2 0, 8, .inl f51)), (q40, .inl (g.2 0, 8, .inl f51)), (q39, .inl (g.2 0, 497, .inl f42)), (q1, .inr (12, [.ref q39, w3, w4, w5, w6, w7, w8, .ref q40, .ref q41, w11, w12, w13, w14, w15, w16, w17, w18, w19, w20, w21, w22, w23, w24, w25, w26, w27, w28, w29, w30, w31, w32, w33, w34, w35, w36, w37, w38]))] := hD
  refine x_iald (v := 0) hx hb hE hP 1 rfl 1 (x_in (by decide)) (by decide) hf53 dX10_isTooGreat_73 ?_
  refine x_imul (v := 0) hx hb dX10_isTooGreat_74 (Int32.mul_zero) ?_
  refine lv_sipush (v := 20000) hx hb dX10_isTooGreat_75 (by decide) ?_
  refine lv_icmp_le (tgt := 85) hx hb dX10_isTooGreat_78 (by decide) (fun _ => ?_) (fun h => absurd (by decide) h)
  refine lv_iconst (v := 0) hx hb dX10_isTooGreat_85 (by decide) ?_
  refine x_ior (v := 0) hx hb dX10_isTooGreat_86 (by decide) ?_
  refine lv_istore_n (lv' := [(1, .int 0), (3, .int 0), (2, .int 0), (0, .ref q1)]) hx hb dX10_isTooGreat_87 rfl hl (by decide) rfl (fun ls hl => ?_)
  refine lv_iload_n hx hb dX10_isTooGreat_88 rfl (lv_at hl 2 rfl) ?_
  refine lv_aload_n hx hb dX10_isTooGreat_89 rfl (lv_at hl 3 rfl) ?_
  refine lv_iload_n hx hb dX10_isTooGreat_90 rfl (lv_at hl 1 rfl) ?_
  refine lv_iconst (v := 2) hx hb dX10_isTooGreat_91 (by decide) ?_
  refine g_i (wr := [(q41, .inl (g.2 0, 8, .inl f51)), (q40, .inl (g.2 0, 8, .inl f51))]) (rV (rest := [.int 0]) hx hb hml hown hE hP hD 3 rfl rfl (c1512_X10_ofClip l g q1 q39 x62 w3 w4 w5 w6 w7 w8 (.ref q40) (.ref q41) w11 w12 w13 w14 w15 w16 w17 w18 w19 w20 w21 w22 w23 w24 w25 w26 w27 w28 w29 w30 w31 w32 w33 w34 w35 w36 w37 w38 f42 (hf61) H.size) (kV_X10_ofClip hE (e1466 hE) rfl rfl ⟨(Nat.le_of_ble_eq_true rfl), (Nat.le_of_ble_eq_true rfl)⟩) [2, 3] rfl (by decide) rfl hl.1 rfl (lv_room (Nat.le_of_ble_eq_true rfl)) dX10_isTooGreat_92 ⟨(Nat.le_of_ble_eq_true rfl), (Nat.le_of_ble_eq_true rfl)⟩) hP hD hS hA [2, 3] [0, 1] rfl rfl (by decide) (by decide) (fun u4 H locs hP hD hS => ?_)
  have hP : va_P g.1 vwCl [(q41, .inl (g.2 0, 8, .inl f51)), (q40, .inl (g.2 0, 8, .inl f51)), (q39, .inl (g.2 0, 497, .inl f42)), (q1, .inr (12, [.ref q39, w3, w4, w5, w6, w7, w8, .ref q40, .ref q41, w11, w12, w13, w14, w15, w16, w17, w18, w19, w20, w21, w22, w23, w24, w25, w26, w27, w28, w29, w30, w31, w32, w33, w34, w35, w36, w37, w38]))] H := hP
  have hD : va_D A [(q41, .inl (g.2 0, 8, .inl f51)), (q40, .inl (g.2 0, 8, .inl f51)), (q39, .inl (g.2 0, 497, .inl f42)), (q1, .inr (12, [.ref q39, w3, w4, w5, w6, w7, w8, .ref q40, .ref q41, w11, w12, w13, w14, w15, w16, w17, w18, w19, w20, w21, w22, w23, w24, w25, w26, w27, w28, w29, w30, w31, w32, w33, w34, w35, w36, w37, w38]))] := hD
  refine lv_aload_n hx hb dX10_isTooGreat_95 rfl (lv_at hl 3 rfl) ?_
  refine gf_RX10_25 hx hb hown hE hP 3 rfl rfl dX10_isTooGreat_96 ?_
  refine lv_aload_n hx hb dX10_isTooGreat_99 rfl (lv_at hl 3 rfl) ?_
  refine lv_iload_n hx hb dX10_isTooGreat_100 rfl (lv_at hl 1 rfl) ?_
  refine lv_iconst (v := 1) hx hb dX10_isTooGreat_101 (by decide) ?_
  refine g_i (wr := [(q41, .inl (g.2 0, 8, .inl f51)), (q40, .inl (g.2 0, 8, .inl f51))]) (rV (rest := [.ref q41, .int x62, .int 0]) hx hb hml hown hE hP hD 3 rfl rfl (c1522_X10_ofClip l g q1 q39 w3 w4 w5 w6 w7 w8 (.ref q40) (.ref q41) w11 w12 w13 w14 w15 w16 w17 w18 w19 w20 w21 w22 w23 w24 w25 w26 w27 w28 w29 w30 w31 w32 w33 w34 w35 w36 w37 w38 f42 (hf63) H.size) (kV_X10_ofClip hE (e1466 hE) rfl rfl ⟨(Nat.le_of_ble_eq_true rfl), (Nat.le_of_ble_eq_true rfl)⟩) [2, 3] rfl (by decide) rfl hl.1 rfl (lv_room (Nat.le_of_ble_eq_true rfl)) dX10_isTooGreat_102 ⟨(Nat.le_of_ble_eq_true rfl), (Nat.le_of_ble_eq_true rfl)⟩) hP hD hS hA [2, 3] [0, 1] rfl rfl (by decide) (by decide) (fun u5 H locs hP hD hS => ?_)
  have hP : va_P g.1 vwCl [(q41, .inl (g.2 0, 8, .inl f51)), (q40, .inl (g.2 0, 8, .inl f51)), (q39, .inl (g.2 0, 497, .inl f42)), (q1, .inr (12, [.ref q39, w3, w4, w5, w6, w7, w8, .ref q40, .ref q41, w11, w12, w13, w14, w15, w16, w17, w18, w19, w20, w21, w22, w23, w24, w25, w26, w27, w28, w29, w30, w31, w32, w33, w34, w35, w36, w37, w38]))] H := hP
  have hD : va_D A [(q41, .inl (g.2 0, 8, .inl f51)), (q40, .inl (g.2 0, 8, .inl f51)), (q39, .inl (g.2 0, 497, .inl f42)), (q1, .inr (12, [.ref q39, w3, w4, w5, w6, w7, w8, .ref q40, .ref q41, w11, w12, w13, w14, w15, w16, w17, w18, w19, w20, w21, w22, w23, w24, w25, w26, w27, w28, w29, w30, w31, w32, w33, w34, w35, w36, w37, w38]))] := hD
  refine x_iald (v := 0) hx hb hE hP 0 rfl 1 (x_in (by decide)) (by decide) hf53 dX10_isTooGreat_105 ?_
  refine x_imul (v := 0) hx hb dX10_isTooGreat_106 (Int32.mul_zero) ?_
  refine x_iadd (v := 0) hx hb dX10_isTooGreat_107 (by decide) ?_
  refine lv_istore_n (lv' := [(2, .int 0), (1, .int 0), (3, .int 0), (0, .ref q1)]) hx hb dX10_isTooGreat_108 rfl hl (by decide) rfl (fun ls hl => ?_)
  refine lv_iinc (v := 1) (lv' := [(3, .int 1), (2, .int 0), (1, .int 0), (0, .ref q1)]) hx hb dX10_isTooGreat_109 hl (k := 2) rfl (by decide) (by decide) rfl (fun ls hl => ?_)
  refine lv_goto (tgt := 44) hx hb dX10_isTooGreat_112 (by decide) ?_
  refine lv_iload_n hx hb dX10_isTooGreat_44 rfl (lv_at hl 0 rfl) ?_
  refine lv_aload_n hx hb dX10_isTooGreat_45 rfl (lv_at hl 3 rfl) ?_
  refine gf_RX10_9 hx hb hown hE hP 3 rfl rfl dX10_isTooGreat_46 ?_
  refine lv_sipush (v := 392) hx hb dX10_isTooGreat_49 (by decide) ?_
  refine x_iald (v := 1) hx hb hE hP 2 rfl 392 (x_in (by decide)) (by decide) hf60 dX10_isTooGreat_52 ?_
  refine lv_icmp_ge (tgt := 115) hx hb dX10_isTooGreat_53 (by decide) (fun _ => ?_) (fun h => absurd (by decide) h)
  refine lv_iload_n hx hb dX10_isTooGreat_115 rfl (lv_at hl 2 rfl) ?_
  refine lv_if_ne (tgt := 126) hx hb dX10_isTooGreat_116 (by decide) (fun h => absurd h (by decide)) (fun _ => ?_)
  refine lv_iload_n hx hb dX10_isTooGreat_119 rfl (lv_at hl 1 rfl) ?_
  refine lv_sipush (v := 300) hx hb dX10_isTooGreat_120 (by decide) ?_
  refine lv_icmp_le (tgt := 130) hx hb dX10_isTooGreat_123 (by decide) (fun _ => ?_) (fun h => absurd (by decide) h)
  refine lv_iconst (v := 0) hx hb dX10_isTooGreat_130 (by decide) ?_
  exact x_zret hx hb hr rfl rfl hlocks hP hD hS hAe hsz (Nat.le_of_ble_eq_true rfl) (Nat.le_of_ble_eq_true rfl) (fun _ => 0) [0, 1, 2, 3] (by decide) rfl dX10_isTooGreat_131

set_option maxHeartbeats 4000000 in
set_option maxRecDepth 100000 in
theorem c1524_X10_addClip (l : Launch) (g : gG) (q1 q51 q54 q56 q57 q74 : Nat) (x2 x3 x4 x5 : Int32) (w7 w9 w12 w15 w16 w17 w18 w19 w20 w21 w22 w23 w24 w25 w26 w27 w28 w29 w30 w31 w32 w33 w34 w35 w36 w37 w38 w39 w40 w41 w42 : Value) (f52 : Nat → Int32) (f55 : Nat → Int32) (hf53 : f52 392 = 0) (hf58 : f52 0 = 0) (hf59 : f52 49 = 0) (hf60 : f52 98 = 0) (hf61 : f52 147 = 0) (hf62 : f52 196 = 0) (hf63 : f52 245 = 0) (hf64 : f52 294 = 0) (hf65 : f52 343 = 0) (hf66 : f55 0 = 0) (hf67 : f55 1 = 0) (hf68 : f55 2 = 0) (hf69 : f55 3 = 0) (hf70 : f55 4 = 0) (hf71 : f55 5 = 0) (hf72 : f55 6 = 0) (hf73 : f55 7 = 0) (h43 : (0 : Int32) ≤ x2) (h44 : x2 ≤ 9999) (h45 : (1 : Int32) ≤ x3) (h46 : x3 ≤ 9) (h47 : ((-50) : Int32) ≤ x4) (h48 : x4 ≤ 50) (h49 : (0 : Int32) ≤ x5) (h50 : x5 ≤ 3) (sz : Nat) : Met l yX10_addClip [Cond.code yX10_addClip cX10_addClip 8 (some .int)] ({ frames := 4, cells := 0, slots := 0, locals := 89 } : Room) (va_Pc [.ref q1, .int x2, .int 1, .int x3, .int x4, .int x5] (PX g sz [(q74, .inl (g.2 0, 3976, .inl f55)), (q57, .inl (g.2 0, 8, .inl f55)), (q56, .inl (g.2 0, 8, .inl f55)), (q54, .inl (g.2 0, 497, .inl f55)), (q51, .inl (g.2 0, 497, .inl f52)), (q1, .inr (12, [.ref q51, w7, .ref q54, w9, .ref q74, .int 0, w12, .ref q56, .ref q57, w15, w16, w17, w18, w19, w20, w21, w22, w23, w24, w25, w26, w27, w28, w29, w30, w31, w32, w33, w34, w35, w36, w37, w38, w39, w40, w41, w42]))])) (QI g [(q74, .inl (g.2 0, 3976, .inl f55)), (q57, .inl (g.2 0, 8, .inl f55)), (q56, .inl (g.2 0, 8, .inl f55)), (q54, .inl (g.2 0, 497, .inl f55)), (q51, .inl (g.2 0, 497, .inl f52)), (q1, .inr (12, [.ref q51, w7, .ref q54, w9, .ref q74, .int 0, w12, .ref q56, .ref q57, w15, w16, w17, w18, w19, w20, w21, w22, w23, w24, w25, w26, w27, w28, w29, w30, w31, w32, w33, w34, w35, w36, w37, w38, w39, w40, w41, w42]))] sz 0 (fun _ => [(q1, .inr (12, [.ref q51, w7, .ref q54, w9, .ref q74, .int 1, .int 0, .ref q56, .ref q57, w15, w16, w17, w18, w19, w20, w21, w22, w23, w24, w25, w26, w27, w28, w29, w30, w31, w32, w33, w34, w35, w36, w37, w38, w39, w40, w41, w42]))])) 0 0 (va_A [(q74, .inl (g.2 0, 3976, .inl f55)), (q57, .inl (g.2 0, 8, .inl f55)), (q56, .inl (g.2 0, 8, .inl f55)), (q54, .inl (g.2 0, 497, .inl f55)), (q51, .inl (g.2 0, 497, .inl f52)), (q1, .inr (12, [.ref q51, w7, .ref q54, w9, .ref q74, .int 0, w12, .ref q56, .ref q57, w15, w16, w17, w18, w19, w20, w21, w22, w23, w24, w25, w26, w27, w28, w29, w30, w31, w32, w33, w34, w35, w36, w37, w38, w39, w40, w41, w42]))] sz) := by
  refine ofN (by decide) (Nat.le_of_ble_eq_true rfl) rfl ?_
  intro p e s m args below meth c A ls hAe hsz hx hb hml hr hlocks hin hown hE hP hD hA hS hl
  have hown : s.vm.findClass RX10 = some m.cls := hown
  refine lv_aload_n hx hb dX10_addClip_0 rfl (lv_at hl 0 rfl) ?_
  refine lv_iconst (v := 0) hx hb dX10_addClip_1 (by decide) ?_
  refine pf_RX10_86 (ws' := [(q74, .inl (g.2 0, 3976, .inl f55)), (q57, .inl (g.2 0, 8, .inl f55)), (q56, .inl (g.2 0, 8, .inl f55)), (q54, .inl (g.2 0, 497, .inl f55)), (q51, .inl (g.2 0, 497, .inl f52)), (q1, .inr (12, [.ref q51, w7, .ref q54, w9, .ref q74, .int 0, .int 0, .ref q56, .ref q57, w15, w16, w17, w18, w19, w20, w21, w22, w23, w24, w25, w26, w27, w28, w29, w30, w31, w32, w33, w34, w35, w36, w37, w38, w39, w40, w41, w42]))]) hx hb hown hE hP hD hS 5 rfl rfl rfl (Nat.le_of_ble_eq_true rfl) dX10_addClip_2 rfl (fun H locs hP hD hS => ?_)
  refine lv_iload_n hx hb dX10_addClip_5 rfl (lv_at hl 1 rfl) ?_
  refine lv_iconst (v := 0) hx hb dX10_addClip_6 (by decide) ?_
  refine lv_sipush (v := 9999) hx hb dX10_addClip_7 (by decide) ?_
  refine g0_i (rS (rest := []) hx hb hml hown hE hP hD (c1480_X10_in l g x2 h43 h44 H.size) (kS_X10_in hE (e1431 hE) rfl rfl ⟨(Nat.le_of_ble_eq_true rfl), (Nat.le_of_ble_eq_true rfl)⟩) [] rfl (by decide) rfl hl.1 rfl (lv_room (Nat.le_of_ble_eq_true rfl)) dX10_addClip_10 ⟨(Nat.le_of_ble_eq_true rfl), (Nat.le_of_ble_eq_true rfl)⟩) hP hD hS hA (fun u9 H locs hP hS => ?_)
  refine lv_if_eq (tgt := 59) hx hb dX10_addClip_13 (by decide) (fun h => absurd h (by decide)) (fun _ => ?_)
  refine lv_iload_n hx hb dX10_addClip_16 rfl (lv_at hl 2 rfl) ?_
  refine g0_i (rS (rest := []) hx hb hml hown hE hP hD (c94_X10_isPattern l g 1 (by decide) (by decide) H.size) (kS_X10_isPattern hE (e1428 hE) rfl rfl ⟨(Nat.le_of_ble_eq_true rfl), (Nat.le_of_ble_eq_true rfl)⟩) [] rfl (by decide) rfl hl.1 rfl (lv_room (Nat.le_of_ble_eq_true rfl)) dX10_addClip_17 ⟨(Nat.le_of_ble_eq_true rfl), (Nat.le_of_ble_eq_true rfl)⟩) hP hD hS hA (fun u9 H locs hP hS => ?_)
  refine lv_if_eq (tgt := 59) hx hb dX10_addClip_20 (by decide) (fun h => absurd h (by decide)) (fun _ => ?_)
  refine lv_iload_n hx hb dX10_addClip_23 rfl (lv_at hl 3 rfl) ?_
  refine lv_iconst (v := 1) hx hb dX10_addClip_24 (by decide) ?_
  refine lv_bipush (v := 9) hx hb dX10_addClip_25 (by decide) ?_
  refine g0_i (rS (rest := []) hx hb hml hown hE hP hD (c196_X10_in l g x3 h45 h46 H.size) (kS_X10_in hE (e1431 hE) rfl rfl ⟨(Nat.le_of_ble_eq_true rfl), (Nat.le_of_ble_eq_true rfl)⟩) [] rfl (by decide) rfl hl.1 rfl (lv_room (Nat.le_of_ble_eq_true rfl)) dX10_addClip_27 ⟨(Nat.le_of_ble_eq_true rfl), (Nat.le_of_ble_eq_true rfl)⟩) hP hD hS hA (fun u9 H locs hP hS => ?_)
  refine lv_if_eq (tgt := 59) hx hb dX10_addClip_30 (by decide) (fun h => absurd h (by decide)) (fun _ => ?_)
  refine lv_iload hx hb dX10_addClip_33 (lv_at hl 4 rfl) ?_
  refine lv_bipush (v := (-50)) hx hb dX10_addClip_35 (by decide) ?_
  refine lv_bipush (v := 50) hx hb dX10_addClip_37 (by decide) ?_
  refine g0_i (rS (rest := []) hx hb hml hown hE hP hD (c1494_X10_in l g x4 h47 h48 H.size) (kS_X10_in hE (e1431 hE) rfl rfl ⟨(Nat.le_of_ble_eq_true rfl), (Nat.le_of_ble_eq_true rfl)⟩) [] rfl (by decide) rfl hl.1 rfl (lv_room (Nat.le_of_ble_eq_true rfl)) dX10_addClip_39 ⟨(Nat.le_of_ble_eq_true rfl), (Nat.le_of_ble_eq_true rfl)⟩) hP hD hS hA (fun u9 H locs hP hS => ?_)
  refine lv_if_eq (tgt := 59) hx hb dX10_addClip_42 (by decide) (fun h => absurd h (by decide)) (fun _ => ?_)
  refine lv_iload hx hb dX10_addClip_45 (lv_at hl 5 rfl) ?_
  refine lv_iconst (v := 0) hx hb dX10_addClip_47 (by decide) ?_
  refine lv_iconst (v := 3) hx hb dX10_addClip_48 (by decide) ?_
  refine g0_i (rS (rest := []) hx hb hml hown hE hP hD (c818_X10_in l g x5 h49 h50 H.size) (kS_X10_in hE (e1431 hE) rfl rfl ⟨(Nat.le_of_ble_eq_true rfl), (Nat.le_of_ble_eq_true rfl)⟩) [] rfl (by decide) rfl hl.1 rfl (lv_room (Nat.le_of_ble_eq_true rfl)) dX10_addClip_49 ⟨(Nat.le_of_ble_eq_true rfl), (Nat.le_of_ble_eq_true rfl)⟩) hP hD hS hA (fun u9 H locs hP hS => ?_)
  refine lv_if_eq (tgt := 59) hx hb dX10_addClip_52 (by decide) (fun h => absurd h (by decide)) (fun _ => ?_)
  refine lv_iconst (v := 1) hx hb dX10_addClip_55 (by decide) ?_
  refine lv_goto (tgt := 60) hx hb dX10_addClip_56 (by decide) ?_
  refine lv_istore (lv' := [(6, .int 1), (0, .ref q1), (1, .int x2), (2, .int 1), (3, .int x3), (4, .int x4), (5, .int x5)]) hx hb dX10_addClip_60 hl (by decide) rfl (fun ls hl => ?_)
  refine lv_iload hx hb dX10_addClip_62 (lv_at hl 0 rfl) ?_
  refine lv_if_ne (tgt := 73) hx hb dX10_addClip_64 (by decide) (fun _ => ?_) (fun h => absurd h (by decide))
  refine lv_aload_n hx hb dX10_addClip_73 rfl (lv_at hl 1 rfl) ?_
  refine gf_RX10_9 hx hb hown hE hP 5 rfl rfl dX10_addClip_74 ?_
  refine lv_sipush (v := 392) hx hb dX10_addClip_77 (by decide) ?_
  refine x_iald (v := 0) hx hb hE hP 4 rfl 392 (x_in (by decide)) (by decide) hf53 dX10_addClip_80 ?_
  refine lv_bipush (v := 12) hx hb dX10_addClip_81 (by decide) ?_
  refine lv_icmp_ne (tgt := 92) hx hb dX10_addClip_83 (by decide) (fun _ => ?_) (fun h => absurd h (by decide))
  refine lv_aload_n hx hb dX10_addClip_92 rfl (lv_at hl 1 rfl) ?_
  refine g_v (wr := [(q74, .inl (g.2 0, 3976, .inl f55)), (q57, .inl (g.2 0, 8, .inl f55)), (q56, .inl (g.2 0, 8, .inl f55))]) (rV (rest := []) hx hb hml hown hE hP hD 5 rfl rfl (c198_X10_putAside l g q1 q54 q51 w7 w9 (.ref q74) (.int 0) (.int 0) (.ref q56) (.ref q57) w15 w16 w17 w18 w19 w20 w21 w22 w23 w24 w25 w26 w27 w28 w29 w30 w31 w32 w33 w34 w35 w36 w37 w38 w39 w40 w41 w42 f52 f55 H.size) (kV_X10_putAside hE (e1437 hE) rfl rfl ⟨(Nat.le_of_ble_eq_true rfl), (Nat.le_of_ble_eq_true rfl)⟩) [3, 4, 5] rfl (by decide) rfl hl.1 rfl (lv_room (Nat.le_of_ble_eq_true rfl)) dX10_addClip_93 ⟨(Nat.le_of_ble_eq_true rfl), (Nat.le_of_ble_eq_true rfl)⟩) hP hD hS hA [3, 4, 5] [0, 1, 2] rfl rfl (by decide) (by decide) (fun u6 H locs hP hD hS => ?_)
  have hP : va_P g.1 vwCl [(q74, .inl (g.2 0, 3976, .inl f55)), (q57, .inl (g.2 0, 8, .inl f55)), (q56, .inl (g.2 0, 8, .inl f55)), (q54, .inl (g.2 0, 497, .inl (cpF 497 f52 f55))), (q51, .inl (g.2 0, 497, .inl f52)), (q1, .inr (12, [.ref q51, w7, .ref q54, w9, .ref q74, .int 0, .int 0, .ref q56, .ref q57, w15, w16, w17, w18, w19, w20, w21, w22, w23, w24, w25, w26, w27, w28, w29, w30, w31, w32, w33, w34, w35, w36, w37, w38, w39, w40, w41, w42]))] H := hP
  have hD : va_D A [(q74, .inl (g.2 0, 3976, .inl f55)), (q57, .inl (g.2 0, 8, .inl f55)), (q56, .inl (g.2 0, 8, .inl f55)), (q54, .inl (g.2 0, 497, .inl (cpF 497 f52 f55))), (q51, .inl (g.2 0, 497, .inl f52)), (q1, .inr (12, [.ref q51, w7, .ref q54, w9, .ref q74, .int 0, .int 0, .ref q56, .ref q57, w15, w16, w17, w18, w19, w20, w21, w22, w23, w24, w25, w26, w27, w28, w29, w30, w31, w32, w33, w34, w35, w36, w37, w38, w39, w40, w41, w42]))] := hD
  refine lv_sipush (v := 393) hx hb dX10_addClip_96 (by decide) ?_
  refine lv_iconst (v := 5) hx hb dX10_addClip_99 (by decide) ?_
  refine lv_aload_n hx hb dX10_addClip_100 rfl (lv_at hl 1 rfl) ?_
  refine gf_RX10_9 hx hb hown hE hP 5 rfl rfl dX10_addClip_101 ?_
  refine lv_sipush (v := 392) hx hb dX10_addClip_104 (by decide) ?_
  refine x_iald (v := 0) hx hb hE hP 4 rfl 392 (x_in (by decide)) (by decide) hf53 dX10_addClip_107 ?_
  refine x_imul (v := 0) hx hb dX10_addClip_108 (by decide) ?_
  refine x_iadd (v := 393) hx hb dX10_addClip_109 (by decide) ?_
  refine lv_istore (lv' := [(7, .int 393), (6, .int 1), (0, .ref q1), (1, .int x2), (2, .int 1), (3, .int x3), (4, .int x4), (5, .int x5)]) hx hb dX10_addClip_110 hl (by decide) rfl (fun ls hl => ?_)
  refine lv_aload_n hx hb dX10_addClip_112 rfl (lv_at hl 2 rfl) ?_
  refine gf_RX10_9 hx hb hown hE hP 5 rfl rfl dX10_addClip_113 ?_
  refine lv_iload hx hb dX10_addClip_116 (lv_at hl 0 rfl) ?_
  refine lv_iload_n hx hb dX10_addClip_118 rfl (lv_at hl 3 rfl) ?_
  refine x_iast (ws' := [(q74, .inl (g.2 0, 3976, .inl f55)), (q57, .inl (g.2 0, 8, .inl f55)), (q56, .inl (g.2 0, 8, .inl f55)), (q54, .inl (g.2 0, 497, .inl (cpF 497 f52 f55))), (q51, .inl (g.2 0, 497, .inl (upd f52 393 x2))), (q1, .inr (12, [.ref q51, w7, .ref q54, w9, .ref q74, .int 0, .int 0, .ref q56, .ref q57, w15, w16, w17, w18, w19, w20, w21, w22, w23, w24, w25, w26, w27, w28, w29, w30, w31, w32, w33, w34, w35, w36, w37, w38, w39, w40, w41, w42]))]) hx hb hE hP hD hS 4 rfl 393 (x_in (by decide)) (by decide) dX10_addClip_119 rfl (fun H locs hP hD hS => ?_)
  refine lv_aload_n hx hb dX10_addClip_120 rfl (lv_at hl 2 rfl) ?_
  refine gf_RX10_9 hx hb hown hE hP 5 rfl rfl dX10_addClip_121 ?_
  refine lv_iload hx hb dX10_addClip_124 (lv_at hl 0 rfl) ?_
  refine lv_iconst (v := 1) hx hb dX10_addClip_126 (by decide) ?_
  refine x_iadd (v := 394) hx hb dX10_addClip_127 (by decide) ?_
  refine lv_iload_n hx hb dX10_addClip_128 rfl (lv_at hl 4 rfl) ?_
  refine x_iast (ws' := [(q74, .inl (g.2 0, 3976, .inl f55)), (q57, .inl (g.2 0, 8, .inl f55)), (q56, .inl (g.2 0, 8, .inl f55)), (q54, .inl (g.2 0, 497, .inl (cpF 497 f52 f55))), (q51, .inl (g.2 0, 497, .inl (upd (upd f52 393 x2) 394 1))), (q1, .inr (12, [.ref q51, w7, .ref q54, w9, .ref q74, .int 0, .int 0, .ref q56, .ref q57, w15, w16, w17, w18, w19, w20, w21, w22, w23, w24, w25, w26, w27, w28, w29, w30, w31, w32, w33, w34, w35, w36, w37, w38, w39, w40, w41, w42]))]) hx hb hE hP hD hS 4 rfl 394 (x_in (by decide)) (by decide) dX10_addClip_129 rfl (fun H locs hP hD hS => ?_)
  refine lv_aload_n hx hb dX10_addClip_130 rfl (lv_at hl 2 rfl) ?_
  refine gf_RX10_9 hx hb hown hE hP 5 rfl rfl dX10_addClip_131 ?_
  refine lv_iload hx hb dX10_addClip_134 (lv_at hl 0 rfl) ?_
  refine lv_iconst (v := 2) hx hb dX10_addClip_136 (by decide) ?_
  refine x_iadd (v := 395) hx hb dX10_addClip_137 (by decide) ?_
  refine lv_iload_n hx hb dX10_addClip_138 rfl (lv_at hl 5 rfl) ?_
  refine x_iast (ws' := [(q74, .inl (g.2 0, 3976, .inl f55)), (q57, .inl (g.2 0, 8, .inl f55)), (q56, .inl (g.2 0, 8, .inl f55)), (q54, .inl (g.2 0, 497, .inl (cpF 497 f52 f55))), (q51, .inl (g.2 0, 497, .inl (upd (upd (upd f52 393 x2) 394 1) 395 x3))), (q1, .inr (12, [.ref q51, w7, .ref q54, w9, .ref q74, .int 0, .int 0, .ref q56, .ref q57, w15, w16, w17, w18, w19, w20, w21, w22, w23, w24, w25, w26, w27, w28, w29, w30, w31, w32, w33, w34, w35, w36, w37, w38, w39, w40, w41, w42]))]) hx hb hE hP hD hS 4 rfl 395 (x_in (by decide)) (by decide) dX10_addClip_139 rfl (fun H locs hP hD hS => ?_)
  refine lv_aload_n hx hb dX10_addClip_140 rfl (lv_at hl 2 rfl) ?_
  refine gf_RX10_9 hx hb hown hE hP 5 rfl rfl dX10_addClip_141 ?_
  refine lv_iload hx hb dX10_addClip_144 (lv_at hl 0 rfl) ?_
  refine lv_iconst (v := 3) hx hb dX10_addClip_146 (by decide) ?_
  refine x_iadd (v := 396) hx hb dX10_addClip_147 (by decide) ?_
  refine lv_iload hx hb dX10_addClip_148 (lv_at hl 6 rfl) ?_
  refine x_iast (ws' := [(q74, .inl (g.2 0, 3976, .inl f55)), (q57, .inl (g.2 0, 8, .inl f55)), (q56, .inl (g.2 0, 8, .inl f55)), (q54, .inl (g.2 0, 497, .inl (cpF 497 f52 f55))), (q51, .inl (g.2 0, 497, .inl (upd (upd (upd (upd f52 393 x2) 394 1) 395 x3) 396 x4))), (q1, .inr (12, [.ref q51, w7, .ref q54, w9, .ref q74, .int 0, .int 0, .ref q56, .ref q57, w15, w16, w17, w18, w19, w20, w21, w22, w23, w24, w25, w26, w27, w28, w29, w30, w31, w32, w33, w34, w35, w36, w37, w38, w39, w40, w41, w42]))]) hx hb hE hP hD hS 4 rfl 396 (x_in (by decide)) (by decide) dX10_addClip_150 rfl (fun H locs hP hD hS => ?_)
  refine lv_aload_n hx hb dX10_addClip_151 rfl (lv_at hl 2 rfl) ?_
  refine gf_RX10_9 hx hb hown hE hP 5 rfl rfl dX10_addClip_152 ?_
  refine lv_iload hx hb dX10_addClip_155 (lv_at hl 0 rfl) ?_
  refine lv_iconst (v := 4) hx hb dX10_addClip_157 (by decide) ?_
  refine x_iadd (v := 397) hx hb dX10_addClip_158 (by decide) ?_
  refine lv_iload hx hb dX10_addClip_159 (lv_at hl 7 rfl) ?_
  refine x_iast (ws' := [(q74, .inl (g.2 0, 3976, .inl f55)), (q57, .inl (g.2 0, 8, .inl f55)), (q56, .inl (g.2 0, 8, .inl f55)), (q54, .inl (g.2 0, 497, .inl (cpF 497 f52 f55))), (q51, .inl (g.2 0, 497, .inl (upd (upd (upd (upd (upd f52 393 x2) 394 1) 395 x3) 396 x4) 397 x5))), (q1, .inr (12, [.ref q51, w7, .ref q54, w9, .ref q74, .int 0, .int 0, .ref q56, .ref q57, w15, w16, w17, w18, w19, w20, w21, w22, w23, w24, w25, w26, w27, w28, w29, w30, w31, w32, w33, w34, w35, w36, w37, w38, w39, w40, w41, w42]))]) hx hb hE hP hD hS 4 rfl 397 (x_in (by decide)) (by decide) dX10_addClip_161 rfl (fun H locs hP hD hS => ?_)
  refine lv_aload_n hx hb dX10_addClip_162 rfl (lv_at hl 2 rfl) ?_
  refine gf_RX10_9 hx hb hown hE hP 5 rfl rfl dX10_addClip_163 ?_
  refine lv_sipush (v := 392) hx hb dX10_addClip_166 (by decide) ?_
  refine lv_dup2_11 hx hb dX10_addClip_169 rfl rfl ?_
  refine x_iald (v := 0) hx hb hE hP 4 rfl 392 (x_in (by decide)) (by decide) ((pk_un (by decide)).trans ((pk_un (by decide)).trans ((pk_un (by decide)).trans ((pk_un (by decide)).trans ((pk_un (by decide)).trans hf53))))) dX10_addClip_170 ?_
  refine lv_iconst (v := 1) hx hb dX10_addClip_171 (by decide) ?_
  refine x_iadd (v := 1) hx hb dX10_addClip_172 (by decide) ?_
  refine x_iast (ws' := [(q74, .inl (g.2 0, 3976, .inl f55)), (q57, .inl (g.2 0, 8, .inl f55)), (q56, .inl (g.2 0, 8, .inl f55)), (q54, .inl (g.2 0, 497, .inl (cpF 497 f52 f55))), (q51, .inl (g.2 0, 497, .inl (upd (upd (upd (upd (upd (upd f52 393 x2) 394 1) 395 x3) 396 x4) 397 x5) 392 1))), (q1, .inr (12, [.ref q51, w7, .ref q54, w9, .ref q74, .int 0, .int 0, .ref q56, .ref q57, w15, w16, w17, w18, w19, w20, w21, w22, w23, w24, w25, w26, w27, w28, w29, w30, w31, w32, w33, w34, w35, w36, w37, w38, w39, w40, w41, w42]))]) hx hb hE hP hD hS 4 rfl 392 (x_in (by decide)) (by decide) dX10_addClip_173 rfl (fun H locs hP hD hS => ?_)
  refine lv_aload_n hx hb dX10_addClip_174 rfl (lv_at hl 2 rfl) ?_
  refine g_i (wr := [(q74, .inl (g.2 0, 3976, .inl f55)), (q54, .inl (g.2 0, 497, .inl (cpF 497 f52 f55)))]) (rV (rest := []) hx hb hml hown hE hP hD 5 rfl rfl (c1523_X10_isTooGreat l g q1 q51 q56 q57 x3 w7 (.ref q54) w9 (.ref q74) (.int 0) (.int 0) w15 w16 w17 w18 w19 w20 w21 w22 w23 w24 w25 w26 w27 w28 w29 w30 w31 w32 w33 w34 w35 w36 w37 w38 w39 w40 w41 w42 (upd (upd (upd (upd (upd (upd f52 393 x2) 394 1) 395 x3) 396 x4) 397 x5) 392 1) f55 (((pk_un (by decide)).trans ((pk_un (by decide)).trans ((pk_un (by decide)).trans ((pk_un (by decide)).trans ((pk_un (by decide)).trans ((pk_un (by decide)).trans hf58))))))) (((pk_un (by decide)).trans ((pk_un (by decide)).trans ((pk_un (by decide)).trans ((pk_un (by decide)).trans ((pk_un (by decide)).trans ((pk_un (by decide)).trans hf59))))))) (((pk_un (by decide)).trans ((pk_un (by decide)).trans ((pk_un (by decide)).trans ((pk_un (by decide)).trans ((pk_un (by decide)).trans ((pk_un (by decide)).trans hf60))))))) (((pk_un (by decide)).trans ((pk_un (by decide)).trans ((pk_un (by decide)).trans ((pk_un (by decide)).trans ((pk_un (by decide)).trans ((pk_un (by decide)).trans hf61))))))) (((pk_un (by decide)).trans ((pk_un (by decide)).trans ((pk_un (by decide)).trans ((pk_un (by decide)).trans ((pk_un (by decide)).trans ((pk_un (by decide)).trans hf62))))))) (((pk_un (by decide)).trans ((pk_un (by decide)).trans ((pk_un (by decide)).trans ((pk_un (by decide)).trans ((pk_un (by decide)).trans ((pk_un (by decide)).trans hf63))))))) (((pk_un (by decide)).trans ((pk_un (by decide)).trans ((pk_un (by decide)).trans ((pk_un (by decide)).trans ((pk_un (by decide)).trans ((pk_un (by decide)).trans hf64))))))) (((pk_un (by decide)).trans ((pk_un (by decide)).trans ((pk_un (by decide)).trans ((pk_un (by decide)).trans ((pk_un (by decide)).trans ((pk_un (by decide)).trans hf65))))))) (hf66) (hf67) (hf68) (hf69) (hf70) (hf71) (hf72) (hf73) (pk_us) (((pk_un (by decide)).trans ((pk_un (by decide)).trans ((pk_un (by decide)).trans pk_us)))) (((pk_un (by decide)).trans ((pk_un (by decide)).trans ((pk_un (by decide)).trans ((pk_un (by decide)).trans pk_us))))) H.size) (kV_X10_isTooGreat hE (e1448 hE) rfl rfl ⟨(Nat.le_of_ble_eq_true rfl), (Nat.le_of_ble_eq_true rfl)⟩) [1, 2, 4, 5] rfl (by decide) rfl hl.1 rfl (lv_room (Nat.le_of_ble_eq_true rfl)) dX10_addClip_175 ⟨(Nat.le_of_ble_eq_true rfl), (Nat.le_of_ble_eq_true rfl)⟩) hP hD hS hA [1, 2, 4, 5] [0, 3] rfl rfl (by decide) (by decide) (fun u7 H locs hP hD hS => ?_)
  have hP : va_P g.1 vwCl [(q74, .inl (g.2 0, 3976, .inl f55)), (q54, .inl (g.2 0, 497, .inl (cpF 497 f52 f55))), (q57, .inl (g.2 0, 8, .inl f55)), (q56, .inl (g.2 0, 8, .inl f55)), (q51, .inl (g.2 0, 497, .inl (upd (upd (upd (upd (upd (upd f52 393 x2) 394 1) 395 x3) 396 x4) 397 x5) 392 1))), (q1, .inr (12, [.ref q51, w7, .ref q54, w9, .ref q74, .int 0, .int 0, .ref q56, .ref q57, w15, w16, w17, w18, w19, w20, w21, w22, w23, w24, w25, w26, w27, w28, w29, w30, w31, w32, w33, w34, w35, w36, w37, w38, w39, w40, w41, w42]))] H := hP
  have hD : va_D A [(q74, .inl (g.2 0, 3976, .inl f55)), (q54, .inl (g.2 0, 497, .inl (cpF 497 f52 f55))), (q57, .inl (g.2 0, 8, .inl f55)), (q56, .inl (g.2 0, 8, .inl f55)), (q51, .inl (g.2 0, 497, .inl (upd (upd (upd (upd (upd (upd f52 393 x2) 394 1) 395 x3) 396 x4) 397 x5) 392 1))), (q1, .inr (12, [.ref q51, w7, .ref q54, w9, .ref q74, .int 0, .int 0, .ref q56, .ref q57, w15, w16, w17, w18, w19, w20, w21, w22, w23, w24, w25, w26, w27, w28, w29, w30, w31, w32, w33, w34, w35, w36, w37, w38, w39, w40, w41, w42]))] := hD
  refine lv_if_eq (tgt := 191) hx hb dX10_addClip_178 (by decide) (fun _ => ?_) (fun h => absurd (by decide) h)
  refine lv_aload_n hx hb dX10_addClip_191 rfl (lv_at hl 2 rfl) ?_
  refine g_v (wr := [(q57, .inl (g.2 0, 8, .inl f55)), (q56, .inl (g.2 0, 8, .inl f55)), (q51, .inl (g.2 0, 497, .inl (upd (upd (upd (upd (upd (upd f52 393 x2) 394 1) 395 x3) 396 x4) 397 x5) 392 1)))]) (rV (rest := []) hx hb hml hown hE hP hD 5 rfl rfl (c220_X10_keep l g q1 q74 q54 (.ref q51) w7 w9 (.int 0) (.ref q56) (.ref q57) w15 w16 w17 w18 w19 w20 w21 w22 w23 w24 w25 w26 w27 w28 w29 w30 w31 w32 w33 w34 w35 w36 w37 w38 w39 w40 w41 w42 (cpF 497 f52 f55) f55 H.size) (kV_X10_keep hE (e1478 hE) rfl rfl ⟨(Nat.le_of_ble_eq_true rfl), (Nat.le_of_ble_eq_true rfl)⟩) [0, 1, 5] rfl (by decide) rfl hl.1 rfl (lv_room (Nat.le_of_ble_eq_true rfl)) dX10_addClip_192 ⟨(Nat.le_of_ble_eq_true rfl), (Nat.le_of_ble_eq_true rfl)⟩) hP hD hS hA [0, 1, 5] [2, 3, 4] rfl rfl (by decide) (by decide) (fun u8 H locs hP hD hS => ?_)
  have hP : va_P g.1 vwCl [(q57, .inl (g.2 0, 8, .inl f55)), (q56, .inl (g.2 0, 8, .inl f55)), (q51, .inl (g.2 0, 497, .inl (upd (upd (upd (upd (upd (upd f52 393 x2) 394 1) 395 x3) 396 x4) 397 x5) 392 1))), (q74, .inl (g.2 0, 3976, .inl (cpF 497 (cpF 497 f52 f55) f55))), (q54, .inl (g.2 0, 497, .inl (cpF 497 f52 f55))), (q1, .inr (12, [.ref q51, w7, .ref q54, w9, .ref q74, .int 1, .int 0, .ref q56, .ref q57, w15, w16, w17, w18, w19, w20, w21, w22, w23, w24, w25, w26, w27, w28, w29, w30, w31, w32, w33, w34, w35, w36, w37, w38, w39, w40, w41, w42]))] H := hP
  have hD : va_D A [(q57, .inl (g.2 0, 8, .inl f55)), (q56, .inl (g.2 0, 8, .inl f55)), (q51, .inl (g.2 0, 497, .inl (upd (upd (upd (upd (upd (upd f52 393 x2) 394 1) 395 x3) 396 x4) 397 x5) 392 1))), (q74, .inl (g.2 0, 3976, .inl (cpF 497 (cpF 497 f52 f55) f55))), (q54, .inl (g.2 0, 497, .inl (cpF 497 f52 f55))), (q1, .inr (12, [.ref q51, w7, .ref q54, w9, .ref q74, .int 1, .int 0, .ref q56, .ref q57, w15, w16, w17, w18, w19, w20, w21, w22, w23, w24, w25, w26, w27, w28, w29, w30, w31, w32, w33, w34, w35, w36, w37, w38, w39, w40, w41, w42]))] := hD
  refine lv_aload_n hx hb dX10_addClip_195 rfl (lv_at hl 2 rfl) ?_
  refine gf_RX10_9 hx hb hown hE hP 5 rfl rfl dX10_addClip_196 ?_
  refine lv_sipush (v := 392) hx hb dX10_addClip_199 (by decide) ?_
  refine x_iald (v := 1) hx hb hE hP 2 rfl 392 (x_in (by decide)) (by decide) pk_us dX10_addClip_202 ?_
  refine lv_iconst (v := 1) hx hb dX10_addClip_203 (by decide) ?_
  refine x_isub (v := 0) hx hb dX10_addClip_204 (by decide) ?_
  exact x_zret hx hb hr rfl rfl hlocks hP hD hS hAe hsz (Nat.le_of_ble_eq_true rfl) (Nat.le_of_ble_eq_true rfl) (fun _ => 0) [5] (by decide) rfl dX10_addClip_205

set_option maxHeartbeats 4000000 in
set_option maxRecDepth 100000 in
theorem c1525_X6_clipLength (l : Launch) (g : gG) (q1 q9 q13 q17 : Nat) (x12 : Int32) (w3 w5 w6 w7 w8 w15 : Value) (f10 : Nat → Int32) (f18 : Nat → Int32) (hf11 : f10 2 = x12) (hf14 : f10 1 = 2) (hf19 : f18 11 = 0) (sz : Nat) : Met l yX6_clipLength [Cond.code yX6_clipLength cX6_clipLength 2 (some .int)] ({ frames := 1, cells := 0, slots := 0, locals := 23 } : Room) (va_Pc [.ref q1, .int 0] (PX g sz [(q17, .inl (g.2 0, 40, .inl f18)), (q13, .inr (5, [w15, .ref q17])), (q9, .inl (g.2 0, 60, .inl f10)), (q1, .inr (8, [.ref q13, w3, .ref q9, w5, w6, w7, w8]))])) (QI g [(q17, .inl (g.2 0, 40, .inl f18)), (q13, .inr (5, [w15, .ref q17])), (q9, .inl (g.2 0, 60, .inl f10)), (q1, .inr (8, [.ref q13, w3, .ref q9, w5, w6, w7, w8]))] sz 0 (fun _ => [(q9, .inl (g.2 0, 60, .inl f10)), (q1, .inr (8, [.ref q13, w3, .ref q9, w5, w6, w7, w8])), (q17, .inl (g.2 0, 40, .inl f18)), (q13, .inr (5, [w15, .ref q17]))])) 0 0 (va_A [(q17, .inl (g.2 0, 40, .inl f18)), (q13, .inr (5, [w15, .ref q17])), (q9, .inl (g.2 0, 60, .inl f10)), (q1, .inr (8, [.ref q13, w3, .ref q9, w5, w6, w7, w8]))] sz) := by
  refine ofN (by decide) (Nat.le_of_ble_eq_true rfl) rfl ?_
  intro p e s m args below meth c A ls hAe hsz hx hb hml hr hlocks hin hown hE hP hD hA hS hl
  have hown : s.vm.findClass RX6 = some m.cls := hown
  refine lv_aload_n hx hb dX6_clipLength_0 rfl (lv_at hl 0 rfl) ?_
  refine lv_iload_n hx hb dX6_clipLength_1 rfl (lv_at hl 1 rfl) ?_
  refine lv_iconst (v := 2) hx hb dX6_clipLength_2 (by decide) ?_
  refine g_i (wr := [(q17, .inl (g.2 0, 40, .inl f18)), (q13, .inr (5, [w15, .ref q17]))]) (rV (rest := []) hx hb hml hown hE hP hD 3 rfl rfl (c1503_X6_clipNumber l g q1 q9 x12 (.ref q13) w3 w5 w6 w7 w8 f10 (hf11) s.heap.size) (kV_X6_clipNumber hE (e711 hE) rfl rfl ⟨(Nat.le_of_ble_eq_true rfl), (Nat.le_of_ble_eq_true rfl)⟩) [2, 3] rfl (by decide) rfl hl.1 rfl (lv_room (Nat.le_of_ble_eq_true rfl)) dX6_clipLength_3 ⟨(Nat.le_of_ble_eq_true rfl), (Nat.le_of_ble_eq_true rfl)⟩) hP hD hS hA [2, 3] [0, 1] rfl rfl (by decide) (by decide) (fun u1 H locs hP hD hS => ?_)
  have hP : va_P g.1 vwCl [(q17, .inl (g.2 0, 40, .inl f18)), (q13, .inr (5, [w15, .ref q17])), (q9, .inl (g.2 0, 60, .inl f10)), (q1, .inr (8, [.ref q13, w3, .ref q9, w5, w6, w7, w8]))] H := hP
  have hD : va_D A [(q17, .inl (g.2 0, 40, .inl f18)), (q13, .inr (5, [w15, .ref q17])), (q9, .inl (g.2 0, 60, .inl f10)), (q1, .inr (8, [.ref q13, w3, .ref q9, w5, w6, w7, w8]))] := hD
  refine lv_aload_n hx hb dX6_clipLength_6 rfl (lv_at hl 0 rfl) ?_
  refine gf_RX6_12 hx hb hown hE hP 3 rfl rfl dX6_clipLength_7 ?_
  refine lv_aload_n hx hb dX6_clipLength_10 rfl (lv_at hl 0 rfl) ?_
  refine lv_iload_n hx hb dX6_clipLength_11 rfl (lv_at hl 1 rfl) ?_
  refine lv_iconst (v := 1) hx hb dX6_clipLength_12 (by decide) ?_
  refine g_i (wr := [(q17, .inl (g.2 0, 40, .inl f18)), (q13, .inr (5, [w15, .ref q17]))]) (rV (rest := [.ref q13, .int x12]) hx hb hml hown hE hP hD 3 rfl rfl (c1504_X6_clipNumber l g q1 q9 2 (.ref q13) w3 w5 w6 w7 w8 f10 (hf14) H.size) (kV_X6_clipNumber hE (e711 hE) rfl rfl ⟨(Nat.le_of_ble_eq_true rfl), (Nat.le_of_ble_eq_true rfl)⟩) [2, 3] rfl (by decide) rfl hl.1 rfl (lv_room (Nat.le_of_ble_eq_true rfl)) dX6_clipLength_13 ⟨(Nat.le_of_ble_eq_true rfl), (Nat.le_of_ble_eq_true rfl)⟩) hP hD hS hA [2, 3] [0, 1] rfl rfl (by decide) (by decide) (fun u2 H locs hP hD hS => ?_)
  have hP : va_P g.1 vwCl [(q17, .inl (g.2 0, 40, .inl f18)), (q13, .inr (5, [w15, .ref q17])), (q9, .inl (g.2 0, 60, .inl f10)), (q1, .inr (8, [.ref q13, w3, .ref q9, w5, w6, w7, w8]))] H := hP
  have hD : va_D A [(q17, .inl (g.2 0, 40, .inl f18)), (q13, .inr (5, [w15, .ref q17])), (q9, .inl (g.2 0, 60, .inl f10)), (q1, .inr (8, [.ref q13, w3, .ref q9, w5, w6, w7, w8]))] := hD
  refine lv_iconst (v := 1) hx hb dX6_clipLength_16 (by decide) ?_
  refine g_i (wr := [(q9, .inl (g.2 0, 60, .inl f10)), (q1, .inr (8, [.ref q13, w3, .ref q9, w5, w6, w7, w8]))]) (rV (rest := [.int x12]) hx hb hml hown hE hP hD 1 rfl rfl (c157_X3_figure l g q13 q17 w15 f18 (hf19) H.size) (kV_X3_figure hE (e712 hE) rfl rfl ⟨(Nat.le_of_ble_eq_true rfl), (Nat.le_of_ble_eq_true rfl)⟩) [0, 1] rfl (by decide) rfl hl.1 rfl (lv_room (Nat.le_of_ble_eq_true rfl)) dX6_clipLength_17 ⟨(Nat.le_of_ble_eq_true rfl), (Nat.le_of_ble_eq_true rfl)⟩) hP hD hS hA [0, 1] [2, 3] rfl rfl (by decide) (by decide) (fun u3 H locs hP hD hS => ?_)
  have hP : va_P g.1 vwCl [(q9, .inl (g.2 0, 60, .inl f10)), (q1, .inr (8, [.ref q13, w3, .ref q9, w5, w6, w7, w8])), (q17, .inl (g.2 0, 40, .inl f18)), (q13, .inr (5, [w15, .ref q17]))] H := hP
  have hD : va_D A [(q9, .inl (g.2 0, 60, .inl f10)), (q1, .inr (8, [.ref q13, w3, .ref q9, w5, w6, w7, w8])), (q17, .inl (g.2 0, 40, .inl f18)), (q13, .inr (5, [w15, .ref q17]))] := hD
  refine x_imul (v := 0) hx hb dX6_clipLength_20 (Int32.mul_zero) ?_
  exact x_zret hx hb hr rfl rfl hlocks hP hD hS hAe hsz (Nat.le_of_ble_eq_true rfl) (Nat.le_of_ble_eq_true rfl) (fun _ => 0) [0, 1, 2, 3] (by decide) rfl dX6_clipLength_21

set_option maxHeartbeats 4000000 in
set_option maxRecDepth 100000 in
theorem c1526_X6_clipNotes (l : Launch) (g : gG) (q1 q9 q13 q17 : Nat) (x12 : Int32) (w3 w5 w6 w7 w8 w15 : Value) (f10 : Nat → Int32) (f18 : Nat → Int32) (hf11 : f10 2 = x12) (hf14 : f10 1 = 2) (hf19 : f18 12 = 0) (sz : Nat) : Met l yX6_clipNotes [Cond.code yX6_clipNotes cX6_clipNotes 2 (some .int)] ({ frames := 1, cells := 0, slots := 0, locals := 23 } : Room) (va_Pc [.ref q1, .int 0] (PX g sz [(q17, .inl (g.2 0, 40, .inl f18)), (q13, .inr (5, [w15, .ref q17])), (q9, .inl (g.2 0, 60, .inl f10)), (q1, .inr (8, [.ref q13, w3, .ref q9, w5, w6, w7, w8]))])) (QI g [(q17, .inl (g.2 0, 40, .inl f18)), (q13, .inr (5, [w15, .ref q17])), (q9, .inl (g.2 0, 60, .inl f10)), (q1, .inr (8, [.ref q13, w3, .ref q9, w5, w6, w7, w8]))] sz 0 (fun _ => [(q9, .inl (g.2 0, 60, .inl f10)), (q1, .inr (8, [.ref q13, w3, .ref q9, w5, w6, w7, w8])), (q17, .inl (g.2 0, 40, .inl f18)), (q13, .inr (5, [w15, .ref q17]))])) 0 0 (va_A [(q17, .inl (g.2 0, 40, .inl f18)), (q13, .inr (5, [w15, .ref q17])), (q9, .inl (g.2 0, 60, .inl f10)), (q1, .inr (8, [.ref q13, w3, .ref q9, w5, w6, w7, w8]))] sz) := by
  refine ofN (by decide) (Nat.le_of_ble_eq_true rfl) rfl ?_
  intro p e s m args below meth c A ls hAe hsz hx hb hml hr hlocks hin hown hE hP hD hA hS hl
  have hown : s.vm.findClass RX6 = some m.cls := hown
  refine lv_aload_n hx hb dX6_clipNotes_0 rfl (lv_at hl 0 rfl) ?_
  refine lv_iload_n hx hb dX6_clipNotes_1 rfl (lv_at hl 1 rfl) ?_
  refine lv_iconst (v := 2) hx hb dX6_clipNotes_2 (by decide) ?_
  refine g_i (wr := [(q17, .inl (g.2 0, 40, .inl f18)), (q13, .inr (5, [w15, .ref q17]))]) (rV (rest := []) hx hb hml hown hE hP hD 3 rfl rfl (c1503_X6_clipNumber l g q1 q9 x12 (.ref q13) w3 w5 w6 w7 w8 f10 (hf11) s.heap.size) (kV_X6_clipNumber hE (e711 hE) rfl rfl ⟨(Nat.le_of_ble_eq_true rfl), (Nat.le_of_ble_eq_true rfl)⟩) [2, 3] rfl (by decide) rfl hl.1 rfl (lv_room (Nat.le_of_ble_eq_true rfl)) dX6_clipNotes_3 ⟨(Nat.le_of_ble_eq_true rfl), (Nat.le_of_ble_eq_true rfl)⟩) hP hD hS hA [2, 3] [0, 1] rfl rfl (by decide) (by decide) (fun u1 H locs hP hD hS => ?_)
  have hP : va_P g.1 vwCl [(q17, .inl (g.2 0, 40, .inl f18)), (q13, .inr (5, [w15, .ref q17])), (q9, .inl (g.2 0, 60, .inl f10)), (q1, .inr (8, [.ref q13, w3, .ref q9, w5, w6, w7, w8]))] H := hP
  have hD : va_D A [(q17, .inl (g.2 0, 40, .inl f18)), (q13, .inr (5, [w15, .ref q17])), (q9, .inl (g.2 0, 60, .inl f10)), (q1, .inr (8, [.ref q13, w3, .ref q9, w5, w6, w7, w8]))] := hD
  refine lv_aload_n hx hb dX6_clipNotes_6 rfl (lv_at hl 0 rfl) ?_
  refine gf_RX6_12 hx hb hown hE hP 3 rfl rfl dX6_clipNotes_7 ?_
  refine lv_aload_n hx hb dX6_clipNotes_10 rfl (lv_at hl 0 rfl) ?_
  refine lv_iload_n hx hb dX6_clipNotes_11 rfl (lv_at hl 1 rfl) ?_
  refine lv_iconst (v := 1) hx hb dX6_clipNotes_12 (by decide) ?_
  refine g_i (wr := [(q17, .inl (g.2 0, 40, .inl f18)), (q13, .inr (5, [w15, .ref q17]))]) (rV (rest := [.ref q13, .int x12]) hx hb hml hown hE hP hD 3 rfl rfl (c1504_X6_clipNumber l g q1 q9 2 (.ref q13) w3 w5 w6 w7 w8 f10 (hf14) H.size) (kV_X6_clipNumber hE (e711 hE) rfl rfl ⟨(Nat.le_of_ble_eq_true rfl), (Nat.le_of_ble_eq_true rfl)⟩) [2, 3] rfl (by decide) rfl hl.1 rfl (lv_room (Nat.le_of_ble_eq_true rfl)) dX6_clipNotes_13 ⟨(Nat.le_of_ble_eq_true rfl), (Nat.le_of_ble_eq_true rfl)⟩) hP hD hS hA [2, 3] [0, 1] rfl rfl (by decide) (by decide) (fun u2 H locs hP hD hS => ?_)
  have hP : va_P g.1 vwCl [(q17, .inl (g.2 0, 40, .inl f18)), (q13, .inr (5, [w15, .ref q17])), (q9, .inl (g.2 0, 60, .inl f10)), (q1, .inr (8, [.ref q13, w3, .ref q9, w5, w6, w7, w8]))] H := hP
  have hD : va_D A [(q17, .inl (g.2 0, 40, .inl f18)), (q13, .inr (5, [w15, .ref q17])), (q9, .inl (g.2 0, 60, .inl f10)), (q1, .inr (8, [.ref q13, w3, .ref q9, w5, w6, w7, w8]))] := hD
  refine lv_iconst (v := 2) hx hb dX6_clipNotes_16 (by decide) ?_
  refine g_i (wr := [(q9, .inl (g.2 0, 60, .inl f10)), (q1, .inr (8, [.ref q13, w3, .ref q9, w5, w6, w7, w8]))]) (rV (rest := [.int x12]) hx hb hml hown hE hP hD 1 rfl rfl (c792_X3_figure l g q13 q17 w15 f18 (hf19) H.size) (kV_X3_figure hE (e712 hE) rfl rfl ⟨(Nat.le_of_ble_eq_true rfl), (Nat.le_of_ble_eq_true rfl)⟩) [0, 1] rfl (by decide) rfl hl.1 rfl (lv_room (Nat.le_of_ble_eq_true rfl)) dX6_clipNotes_17 ⟨(Nat.le_of_ble_eq_true rfl), (Nat.le_of_ble_eq_true rfl)⟩) hP hD hS hA [0, 1] [2, 3] rfl rfl (by decide) (by decide) (fun u3 H locs hP hD hS => ?_)
  have hP : va_P g.1 vwCl [(q9, .inl (g.2 0, 60, .inl f10)), (q1, .inr (8, [.ref q13, w3, .ref q9, w5, w6, w7, w8])), (q17, .inl (g.2 0, 40, .inl f18)), (q13, .inr (5, [w15, .ref q17]))] H := hP
  have hD : va_D A [(q9, .inl (g.2 0, 60, .inl f10)), (q1, .inr (8, [.ref q13, w3, .ref q9, w5, w6, w7, w8])), (q17, .inl (g.2 0, 40, .inl f18)), (q13, .inr (5, [w15, .ref q17]))] := hD
  refine x_imul (v := 0) hx hb dX6_clipNotes_20 (Int32.mul_zero) ?_
  exact x_zret hx hb hr rfl rfl hlocks hP hD hS hAe hsz (Nat.le_of_ble_eq_true rfl) (Nat.le_of_ble_eq_true rfl) (fun _ => 0) [0, 1, 2, 3] (by decide) rfl dX6_clipNotes_21

set_option maxHeartbeats 4000000 in
set_option maxRecDepth 100000 in
theorem c1527_X6_hasFittingClips (l : Launch) (g : gG) (q1 q9 q10 q17 : Nat) (x13 : Int32) (w3 w5 w7 w8 w15 : Value) (f11 : Nat → Int32) (f18 : Nat → Int32) (hf12 : f11 2 = x13) (hf14 : f11 1 = 2) (hf19 : f18 11 = 0) (hf20 : f18 12 = 0) (sz : Nat) : Met l yX6_hasFittingClips [Cond.code yX6_hasFittingClips cX6_hasFittingClips 3 (some .boolean)] ({ frames := 2, cells := 0, slots := 0, locals := 44 } : Room) (va_Pc [.ref q1] (PX g sz [(q17, .inl (g.2 0, 40, .inl f18)), (q9, .inr (5, [w15, .ref q17])), (q10, .inl (g.2 0, 60, .inl f11)), (q1, .inr (8, [.ref q9, w3, .ref q10, w5, .int 1, w7, w8]))])) (QI g [(q17, .inl (g.2 0, 40, .inl f18)), (q9, .inr (5, [w15, .ref q17])), (q10, .inl (g.2 0, 60, .inl f11)), (q1, .inr (8, [.ref q9, w3, .ref q10, w5, .int 1, w7, w8]))] sz 1 (fun _ => [(q10, .inl (g.2 0, 60, .inl f11)), (q1, .inr (8, [.ref q9, w3, .ref q10, w5, .int 1, w7, w8])), (q17, .inl (g.2 0, 40, .inl f18)), (q9, .inr (5, [w15, .ref q17]))])) 0 0 (va_A [(q17, .inl (g.2 0, 40, .inl f18)), (q9, .inr (5, [w15, .ref q17])), (q10, .inl (g.2 0, 60, .inl f11)), (q1, .inr (8, [.ref q9, w3, .ref q10, w5, .int 1, w7, w8]))] sz) := by
  refine ofN (by decide) (Nat.le_of_ble_eq_true rfl) rfl ?_
  intro p e s m args below meth c A ls hAe hsz hx hb hml hr hlocks hin hown hE hP hD hA hS hl
  have hown : s.vm.findClass RX6 = some m.cls := hown
  refine lv_iconst (v := 0) hx hb dX6_hasFittingClips_0 (by decide) ?_
  refine lv_istore_n (lv' := [(1, .int 0), (0, .ref q1)]) hx hb dX6_hasFittingClips_1 rfl hl (by decide) rfl (fun ls hl => ?_)
  refine lv_iconst (v := 0) hx hb dX6_hasFittingClips_2 (by decide) ?_
  refine lv_istore_n (lv' := [(2, .int 0), (1, .int 0), (0, .ref q1)]) hx hb dX6_hasFittingClips_3 rfl hl (by decide) rfl (fun ls hl => ?_)
  refine lv_iload_n hx hb dX6_hasFittingClips_4 rfl (lv_at hl 0 rfl) ?_
  refine lv_aload_n hx hb dX6_hasFittingClips_5 rfl (lv_at hl 2 rfl) ?_
  refine gf_RX6_37 hx hb hown hE hP 3 rfl rfl dX6_hasFittingClips_6 ?_
  refine lv_icmp_ge (tgt := 39) hx hb dX6_hasFittingClips_9 (by decide) (fun h => absurd h (by decide)) (fun _ => ?_)
  refine lv_aload_n hx hb dX6_hasFittingClips_12 rfl (lv_at hl 2 rfl) ?_
  refine lv_iload_n hx hb dX6_hasFittingClips_13 rfl (lv_at hl 0 rfl) ?_
  refine g_i (wr := []) (rV (rest := []) hx hb hml hown hE hP hD 3 rfl rfl (c1525_X6_clipLength l g q1 q10 q9 q17 x13 w3 w5 (.int 1) w7 w8 w15 f11 f18 (hf12) (hf14) (hf19) s.heap.size) (kV_X6_clipLength hE (e707 hE) rfl rfl ⟨(Nat.le_of_ble_eq_true rfl), (Nat.le_of_ble_eq_true rfl)⟩) [0, 1, 2, 3] rfl (by decide) rfl hl.1 rfl (lv_room (Nat.le_of_ble_eq_true rfl)) dX6_hasFittingClips_14 ⟨(Nat.le_of_ble_eq_true rfl), (Nat.le_of_ble_eq_true rfl)⟩) hP hD hS hA [0, 1, 2, 3] [] rfl rfl (by decide) (by decide) (fun u1 H locs hP hD hS => ?_)
  have hP : va_P g.1 vwCl [(q10, .inl (g.2 0, 60, .inl f11)), (q1, .inr (8, [.ref q9, w3, .ref q10, w5, .int 1, w7, w8])), (q17, .inl (g.2 0, 40, .inl f18)), (q9, .inr (5, [w15, .ref q17]))] H := hP
  have hD : va_D A [(q10, .inl (g.2 0, 60, .inl f11)), (q1, .inr (8, [.ref q9, w3, .ref q10, w5, .int 1, w7, w8])), (q17, .inl (g.2 0, 40, .inl f18)), (q9, .inr (5, [w15, .ref q17]))] := hD
  refine lv_sipush (v := 20000) hx hb dX6_hasFittingClips_17 (by decide) ?_
  refine lv_icmp_le (tgt := 25) hx hb dX6_hasFittingClips_20 (by decide) (fun _ => ?_) (fun h => absurd (by decide) h)
  refine lv_iload_n hx hb dX6_hasFittingClips_25 rfl (lv_at hl 1 rfl) ?_
  refine lv_aload_n hx hb dX6_hasFittingClips_26 rfl (lv_at hl 2 rfl) ?_
  refine lv_iload_n hx hb dX6_hasFittingClips_27 rfl (lv_at hl 0 rfl) ?_
  refine g_i (wr := []) (rV (rest := [.int 0]) hx hb hml hown hE hP hD 1 rfl rfl (c1526_X6_clipNotes l g q1 q10 q9 q17 x13 w3 w5 (.int 1) w7 w8 w15 f11 f18 (hf12) (hf14) (hf20) H.size) (kV_X6_clipNotes hE (e713 hE) rfl rfl ⟨(Nat.le_of_ble_eq_true rfl), (Nat.le_of_ble_eq_true rfl)⟩) [2, 3, 0, 1] rfl (by decide) rfl hl.1 rfl (lv_room (Nat.le_of_ble_eq_true rfl)) dX6_hasFittingClips_28 ⟨(Nat.le_of_ble_eq_true rfl), (Nat.le_of_ble_eq_true rfl)⟩) hP hD hS hA [2, 3, 0, 1] [] rfl rfl (by decide) (by decide) (fun u2 H locs hP hD hS => ?_)
  have hP : va_P g.1 vwCl [(q10, .inl (g.2 0, 60, .inl f11)), (q1, .inr (8, [.ref q9, w3, .ref q10, w5, .int 1, w7, w8])), (q17, .inl (g.2 0, 40, .inl f18)), (q9, .inr (5, [w15, .ref q17]))] H := hP
  have hD : va_D A [(q10, .inl (g.2 0, 60, .inl f11)), (q1, .inr (8, [.ref q9, w3, .ref q10, w5, .int 1, w7, w8])), (q17, .inl (g.2 0, 40, .inl f18)), (q9, .inr (5, [w15, .ref q17]))] := hD
  refine x_iadd (v := 0) hx hb dX6_hasFittingClips_31 (by decide) ?_
  refine lv_istore_n (lv' := [(1, .int 0), (2, .int 0), (0, .ref q1)]) hx hb dX6_hasFittingClips_32 rfl hl (by decide) rfl (fun ls hl => ?_)
  refine lv_iinc (v := 1) (lv' := [(2, .int 1), (1, .int 0), (0, .ref q1)]) hx hb dX6_hasFittingClips_33 hl (k := 1) rfl (by decide) (by decide) rfl (fun ls hl => ?_)
  refine lv_goto (tgt := 4) hx hb dX6_hasFittingClips_36 (by decide) ?_
  refine lv_iload_n hx hb dX6_hasFittingClips_4 rfl (lv_at hl 0 rfl) ?_
  refine lv_aload_n hx hb dX6_hasFittingClips_5 rfl (lv_at hl 2 rfl) ?_
  refine gf_RX6_37 hx hb hown hE hP 1 rfl rfl dX6_hasFittingClips_6 ?_
  refine lv_icmp_ge (tgt := 39) hx hb dX6_hasFittingClips_9 (by decide) (fun _ => ?_) (fun h => absurd (by decide) h)
  refine lv_iload_n hx hb dX6_hasFittingClips_39 rfl (lv_at hl 1 rfl) ?_
  refine lv_sipush (v := 300) hx hb dX6_hasFittingClips_40 (by decide) ?_
  refine lv_icmp_gt (tgt := 50) hx hb dX6_hasFittingClips_43 (by decide) (fun h => absurd h (by decide)) (fun _ => ?_)
  refine lv_iconst (v := 1) hx hb dX6_hasFittingClips_46 (by decide) ?_
  refine lv_goto (tgt := 51) hx hb dX6_hasFittingClips_47 (by decide) ?_
  exact x_zret hx hb hr rfl rfl hlocks hP hD hS hAe hsz (Nat.le_of_ble_eq_true rfl) (Nat.le_of_ble_eq_true rfl) (fun _ => 0) [0, 1, 2, 3] (by decide) rfl dX6_hasFittingClips_51

set_option maxHeartbeats 4000000 in
set_option maxRecDepth 100000 in
theorem c1528_X9_acceptIfFitting (l : Launch) (g : gG) (q1 q2 q10 q13 q14 q47 q63 : Nat) (x50 : Int32) (w4 w6 w8 w9 w53 w54 w55 w56 w57 w58 w59 w60 w61 w62 w64 : Value) (f15 : Nat → Int32) (f48 : Nat → Int32) (hf16 : f15 0 = 0) (hf17 : f15 2 = 0) (hf18 : f15 3 = 0) (hf19 : f15 5 = 0) (hf20 : f15 6 = 0) (hf21 : f15 7 = 0) (hf22 : f15 8 = 0) (hf23 : f15 10 = 0) (hf24 : f15 11 = 0) (hf25 : f15 12 = 0) (hf26 : f15 13 = 0) (hf27 : f15 15 = 0) (hf28 : f15 16 = 0) (hf29 : f15 17 = 0) (hf30 : f15 18 = 0) (hf31 : f15 20 = 0) (hf32 : f15 21 = 0) (hf33 : f15 22 = 0) (hf34 : f15 23 = 0) (hf35 : f15 25 = 0) (hf36 : f15 26 = 0) (hf37 : f15 27 = 0) (hf38 : f15 28 = 0) (hf39 : f15 30 = 0) (hf40 : f15 31 = 0) (hf41 : f15 32 = 0) (hf42 : f15 33 = 0) (hf43 : f15 35 = 0) (hf44 : f15 36 = 0) (hf45 : f15 37 = 0) (hf46 : f15 38 = 0) (hf49 : f48 2 = x50) (hf51 : f48 1 = 2) (sz : Nat) : Met l yX9_acceptIfFitting [Cond.code yX9_acceptIfFitting cX9_acceptIfFitting 2 none] ({ frames := 3, cells := 0, slots := 0, locals := 73 } : Room) (va_Pc [.ref q1, .ref q2] (PX g sz [(q63, .inr (10, [w64, .int 0, .int 0])), (q1, .inr (11, [.ref q63, w53, w54, w55, w56, w57, w58, w59, w60, w61, w62])), (q47, .inl (g.2 0, 60, .inl f48)), (q14, .inl (g.2 0, 40, .inl f15)), (q10, .inr (5, [.ref q13, .ref q14])), (q2, .inr (8, [.ref q10, w4, .ref q47, w6, .int 1, w8, w9]))])) (QV g [(q63, .inr (10, [w64, .int 0, .int 0])), (q1, .inr (11, [.ref q63, w53, w54, w55, w56, w57, w58, w59, w60, w61, w62])), (q47, .inl (g.2 0, 60, .inl f48)), (q14, .inl (g.2 0, 40, .inl f15)), (q10, .inr (5, [.ref q13, .ref q14])), (q2, .inr (8, [.ref q10, w4, .ref q47, w6, .int 1, w8, w9]))] sz (fun _ => [(q47, .inl (g.2 0, 60, .inl f48)), (q2, .inr (8, [.ref q10, w4, .ref q47, w6, .int 1, w8, w9])), (q14, .inl (g.2 0, 40, .inl (upd (upd (upd (upd (upd (upd (upd (upd (upd f15 1 0) 4 1) 9 1) 14 1) 19 1) 24 1) 29 1) 34 1) 39 1))), (q10, .inr (5, [.ref q13, .ref q14])), (q63, .inr (10, [w64, .int 1, .int 1])), (q1, .inr (11, [.ref q63, w53, w54, w55, w56, w57, w58, w59, .int 0, .int 0, w62]))])) 0 0 (va_A [(q63, .inr (10, [w64, .int 0, .int 0])), (q1, .inr (11, [.ref q63, w53, w54, w55, w56, w57, w58, w59, w60, w61, w62])), (q47, .inl (g.2 0, 60, .inl f48)), (q14, .inl (g.2 0, 40, .inl f15)), (q10, .inr (5, [.ref q13, .ref q14])), (q2, .inr (8, [.ref q10, w4, .ref q47, w6, .int 1, w8, w9]))] sz) := by
  refine ofN (by decide) (Nat.le_of_ble_eq_true rfl) rfl ?_
  intro p e s m args below meth c A ls hAe hsz hx hb hml hr hlocks hin hown hE hP hD hA hS hl
  have hown : s.vm.findClass RX9 = some m.cls := hown
  refine lv_aload_n hx hb dX9_acceptIfFitting_0 rfl (lv_at hl 1 rfl) ?_
  refine gf_RX9_108 hx hb hown hE hP 5 rfl rfl dX9_acceptIfFitting_1 ?_
  refine g_i (wr := [(q63, .inr (10, [w64, .int 0, .int 0])), (q1, .inr (11, [.ref q63, w53, w54, w55, w56, w57, w58, w59, w60, w61, w62])), (q47, .inl (g.2 0, 60, .inl f48)), (q2, .inr (8, [.ref q10, w4, .ref q47, w6, .int 1, w8, w9]))]) (rV (rest := []) hx hb hml hown hE hP hD 4 rfl rfl (c1502_X3_measure l g q10 q13 q14 f15 (hf16) (hf17) (hf18) (hf19) (hf20) (hf21) (hf22) (hf23) (hf24) (hf25) (hf26) (hf27) (hf28) (hf29) (hf30) (hf31) (hf32) (hf33) (hf34) (hf35) (hf36) (hf37) (hf38) (hf39) (hf40) (hf41) (hf42) (hf43) (hf44) (hf45) (hf46) s.heap.size) (kV_X3_measure hE (e694 hE) rfl rfl ⟨(Nat.le_of_ble_eq_true rfl), (Nat.le_of_ble_eq_true rfl)⟩) [3, 4] rfl (by decide) rfl hl.1 rfl (lv_room (Nat.le_of_ble_eq_true rfl)) dX9_acceptIfFitting_4 ⟨(Nat.le_of_ble_eq_true rfl), (Nat.le_of_ble_eq_true rfl)⟩) hP hD hS hA [3, 4] [0, 1, 2, 5] rfl rfl (by decide) (by decide) (fun u1 H locs hP hD hS => ?_)
  have hP : va_P g.1 vwCl [(q63, .inr (10, [w64, .int 0, .int 0])), (q1, .inr (11, [.ref q63, w53, w54, w55, w56, w57, w58, w59, w60, w61, w62])), (q47, .inl (g.2 0, 60, .inl f48)), (q2, .inr (8, [.ref q10, w4, .ref q47, w6, .int 1, w8, w9])), (q14, .inl (g.2 0, 40, .inl (upd (upd (upd (upd (upd (upd (upd (upd (upd f15 1 0) 4 1) 9 1) 14 1) 19 1) 24 1) 29 1) 34 1) 39 1))), (q10, .inr (5, [.ref q13, .ref q14]))] H := hP
  have hD : va_D A [(q63, .inr (10, [w64, .int 0, .int 0])), (q1, .inr (11, [.ref q63, w53, w54, w55, w56, w57, w58, w59, w60, w61, w62])), (q47, .inl (g.2 0, 60, .inl f48)), (q2, .inr (8, [.ref q10, w4, .ref q47, w6, .int 1, w8, w9])), (q14, .inl (g.2 0, 40, .inl (upd (upd (upd (upd (upd (upd (upd (upd (upd f15 1 0) 4 1) 9 1) 14 1) 19 1) 24 1) 29 1) 34 1) 39 1))), (q10, .inr (5, [.ref q13, .ref q14]))] := hD
  refine lv_if_eq (tgt := 17) hx hb dX9_acceptIfFitting_7 (by decide) (fun h => absurd h (by decide)) (fun _ => ?_)
  refine lv_aload_n hx hb dX9_acceptIfFitting_10 rfl (lv_at hl 1 rfl) ?_
  refine g_i (wr := [(q63, .inr (10, [w64, .int 0, .int 0])), (q1, .inr (11, [.ref q63, w53, w54, w55, w56, w57, w58, w59, w60, w61, w62]))]) (rV (rest := []) hx hb hml hown hE hP hD 3 rfl rfl (c1527_X6_hasFittingClips l g q2 q10 q47 q14 x50 w4 w6 w8 w9 (.ref q13) f48 (upd (upd (upd (upd (upd (upd (upd (upd (upd f15 1 0) 4 1) 9 1) 14 1) 19 1) 24 1) 29 1) 34 1) 39 1) (hf49) (hf51) (((pk_un (by decide)).trans ((pk_un (by decide)).trans ((pk_un (by decide)).trans ((pk_un (by decide)).trans ((pk_un (by decide)).trans ((pk_un (by decide)).trans ((pk_un (by decide)).trans ((pk_un (by decide)).trans ((pk_un (by decide)).trans hf24)))))))))) (((pk_un (by decide)).trans ((pk_un (by decide)).trans ((pk_un (by decide)).trans ((pk_un (by decide)).trans ((pk_un (by decide)).trans ((pk_un (by decide)).trans ((pk_un (by decide)).trans ((pk_un (by decide)).trans ((pk_un (by decide)).trans hf25)))))))))) H.size) (kV_X6_hasFittingClips hE (e703 hE) rfl rfl ⟨(Nat.le_of_ble_eq_true rfl), (Nat.le_of_ble_eq_true rfl)⟩) [4, 5, 2, 3] rfl (by decide) rfl hl.1 rfl (lv_room (Nat.le_of_ble_eq_true rfl)) dX9_acceptIfFitting_11 ⟨(Nat.le_of_ble_eq_true rfl), (Nat.le_of_ble_eq_true rfl)⟩) hP hD hS hA [4, 5, 2, 3] [0, 1] rfl rfl (by decide) (by decide) (fun u2 H locs hP hD hS => ?_)
  have hP : va_P g.1 vwCl [(q63, .inr (10, [w64, .int 0, .int 0])), (q1, .inr (11, [.ref q63, w53, w54, w55, w56, w57, w58, w59, w60, w61, w62])), (q47, .inl (g.2 0, 60, .inl f48)), (q2, .inr (8, [.ref q10, w4, .ref q47, w6, .int 1, w8, w9])), (q14, .inl (g.2 0, 40, .inl (upd (upd (upd (upd (upd (upd (upd (upd (upd f15 1 0) 4 1) 9 1) 14 1) 19 1) 24 1) 29 1) 34 1) 39 1))), (q10, .inr (5, [.ref q13, .ref q14]))] H := hP
  have hD : va_D A [(q63, .inr (10, [w64, .int 0, .int 0])), (q1, .inr (11, [.ref q63, w53, w54, w55, w56, w57, w58, w59, w60, w61, w62])), (q47, .inl (g.2 0, 60, .inl f48)), (q2, .inr (8, [.ref q10, w4, .ref q47, w6, .int 1, w8, w9])), (q14, .inl (g.2 0, 40, .inl (upd (upd (upd (upd (upd (upd (upd (upd (upd f15 1 0) 4 1) 9 1) 14 1) 19 1) 24 1) 29 1) 34 1) 39 1))), (q10, .inr (5, [.ref q13, .ref q14]))] := hD
  refine lv_if_ne (tgt := 28) hx hb dX9_acceptIfFitting_14 (by decide) (fun _ => ?_) (fun h => absurd h (by decide))
  refine lv_aload_n hx hb dX9_acceptIfFitting_28 rfl (lv_at hl 0 rfl) ?_
  refine g_v (wr := [(q47, .inl (g.2 0, 60, .inl f48)), (q2, .inr (8, [.ref q10, w4, .ref q47, w6, .int 1, w8, w9])), (q14, .inl (g.2 0, 40, .inl (upd (upd (upd (upd (upd (upd (upd (upd (upd f15 1 0) 4 1) 9 1) 14 1) 19 1) 24 1) 29 1) 34 1) 39 1))), (q10, .inr (5, [.ref q13, .ref q14]))]) (rV (rest := []) hx hb hml hown hE hP hD 1 rfl rfl (c191_X9_accept l g q1 q63 w53 w54 w55 w56 w57 w58 w59 w60 w61 w62 w64 H.size) (kV_X9_accept hE (e718 hE) rfl rfl ⟨(Nat.le_of_ble_eq_true rfl), (Nat.le_of_ble_eq_true rfl)⟩) [0, 1] rfl (by decide) rfl hl.1 rfl (lv_room (Nat.le_of_ble_eq_true rfl)) dX9_acceptIfFitting_29 ⟨(Nat.le_of_ble_eq_true rfl), (Nat.le_of_ble_eq_true rfl)⟩) hP hD hS hA [0, 1] [2, 3, 4, 5] rfl rfl (by decide) (by decide) (fun u3 H locs hP hD hS => ?_)
  have hP : va_P g.1 vwCl [(q47, .inl (g.2 0, 60, .inl f48)), (q2, .inr (8, [.ref q10, w4, .ref q47, w6, .int 1, w8, w9])), (q14, .inl (g.2 0, 40, .inl (upd (upd (upd (upd (upd (upd (upd (upd (upd f15 1 0) 4 1) 9 1) 14 1) 19 1) 24 1) 29 1) 34 1) 39 1))), (q10, .inr (5, [.ref q13, .ref q14])), (q63, .inr (10, [w64, .int 1, .int 1])), (q1, .inr (11, [.ref q63, w53, w54, w55, w56, w57, w58, w59, .int 0, .int 0, w62]))] H := hP
  have hD : va_D A [(q47, .inl (g.2 0, 60, .inl f48)), (q2, .inr (8, [.ref q10, w4, .ref q47, w6, .int 1, w8, w9])), (q14, .inl (g.2 0, 40, .inl (upd (upd (upd (upd (upd (upd (upd (upd (upd f15 1 0) 4 1) 9 1) 14 1) 19 1) 24 1) 29 1) 34 1) 39 1))), (q10, .inr (5, [.ref q13, .ref q14])), (q63, .inr (10, [w64, .int 1, .int 1])), (q1, .inr (11, [.ref q63, w53, w54, w55, w56, w57, w58, w59, .int 0, .int 0, w62]))] := hD
  exact x_vret hx hb hr hlocks hP hD hS hAe hsz (Nat.le_of_ble_eq_true rfl) (Nat.le_of_ble_eq_true rfl) (fun _ => 0) [0, 1, 2, 3, 4, 5] (by decide) rfl dX9_acceptIfFitting_32

set_option maxHeartbeats 4000000 in
set_option maxRecDepth 100000 in
theorem c1529_X9_addClip (l : Launch) (g : gG) (q1 q25 q29 q32 q34 q42 q43 q44 q45 q53 q54 q55 q56 q59 q60 q63 q64 q71 q72 q77 q78 : Nat) (x2 x3 x4 x5 : Int32) (w15 w16 w17 w18 w19 w20 w21 w22 w23 w24 w39 w40 w41 w75 w76 : Value) (f30 : Nat → Option Nat) (f65 : Nat → Int32) (f66 : Nat → Int32) (f79 : Nat → Int32) (f80 : Nat → Int32) (hf31 : f30 1 = some q32) (hf33 : f30 0 = some q34) (hf81 : f66 0 = 0) (hf82 : f66 2 = 0) (hf83 : f66 3 = 0) (hf84 : f66 5 = 0) (hf85 : f66 6 = 0) (hf86 : f66 7 = 0) (hf87 : f66 8 = 0) (hf88 : f66 10 = 0) (hf89 : f66 11 = 0) (hf90 : f66 12 = 0) (hf91 : f66 13 = 0) (hf92 : f66 15 = 0) (hf93 : f66 16 = 0) (hf94 : f66 17 = 0) (hf95 : f66 18 = 0) (hf96 : f66 20 = 0) (hf97 : f66 21 = 0) (hf98 : f66 22 = 0) (hf99 : f66 23 = 0) (hf100 : f66 25 = 0) (hf101 : f66 26 = 0) (hf102 : f66 27 = 0) (hf103 : f66 28 = 0) (hf104 : f66 30 = 0) (hf105 : f66 31 = 0) (hf106 : f66 32 = 0) (hf107 : f66 33 = 0) (hf108 : f66 35 = 0) (hf109 : f66 36 = 0) (hf110 : f66 37 = 0) (hf111 : f66 38 = 0) (h6 : (0 : Int32) ≤ x2) (h7 : x2 ≤ 9999) (h8 : (1 : Int32) ≤ x3) (h9 : x3 ≤ 9) (h10 : ((-50) : Int32) ≤ x4) (h11 : x4 ≤ 50) (h12 : (0 : Int32) ≤ x5) (h13 : x5 ≤ 3) (sz : Nat) : Met l yX9_addClip [Cond.code yX9_addClip cX9_addClip 7 (some .int)] ({ frames := 5, cells := 0, slots := 0, locals := 148 } : Room) (va_Pc [.ref q1, .int x2, .int 2, .int x3, .int x4, .int x5] (PX g sz [(q45, .inl (g.2 0, 20, .inl f80)), (q56, .inl (g.2 0, 20, .inl f80)), (q44, .inl (g.2 0, 60, .inl f65)), (q55, .inl (g.2 0, 60, .inl f65)), (q78, .inl (g.2 0, 10, .inl f79)), (q72, .inl (g.2 0, 10, .inl f79)), (q77, .inl (g.2 0, 10, .inl f65)), (q71, .inl (g.2 0, 10, .inl f65)), (q43, .inr (9, [.ref q77, .ref q78, w75, w76])), (q54, .inr (9, [.ref q71, .ref q72, .int 1, .int 0])), (q64, .inl (g.2 0, 40, .inl f66)), (q60, .inl (g.2 0, 40, .inl f66)), (q63, .inl (g.2 0, 384, .inl f65)), (q59, .inl (g.2 0, 384, .inl f65)), (q42, .inr (5, [.ref q63, .ref q64])), (q53, .inr (5, [.ref q59, .ref q60])), (q34, .inr (8, [.ref q53, .ref q54, .ref q55, .ref q56, .int 0, .int 4, .int 0])), (q32, .inr (8, [.ref q42, .ref q43, .ref q44, .ref q45, w39, w40, w41])), (q29, .inl (g.2 3, 10, .inr (.inr (.inr (.inr f30))))), (q25, .inr (10, [.ref q29, .int 0, .int 0])), (q1, .inr (11, [.ref q25, w15, w16, w17, w18, w19, w20, w21, w22, w23, w24]))])) (QI g [(q45, .inl (g.2 0, 20, .inl f80)), (q56, .inl (g.2 0, 20, .inl f80)), (q44, .inl (g.2 0, 60, .inl f65)), (q55, .inl (g.2 0, 60, .inl f65)), (q78, .inl (g.2 0, 10, .inl f79)), (q72, .inl (g.2 0, 10, .inl f79)), (q77, .inl (g.2 0, 10, .inl f65)), (q71, .inl (g.2 0, 10, .inl f65)), (q43, .inr (9, [.ref q77, .ref q78, w75, w76])), (q54, .inr (9, [.ref q71, .ref q72, .int 1, .int 0])), (q64, .inl (g.2 0, 40, .inl f66)), (q60, .inl (g.2 0, 40, .inl f66)), (q63, .inl (g.2 0, 384, .inl f65)), (q59, .inl (g.2 0, 384, .inl f65)), (q42, .inr (5, [.ref q63, .ref q64])), (q53, .inr (5, [.ref q59, .ref q60])), (q34, .inr (8, [.ref q53, .ref q54, .ref q55, .ref q56, .int 0, .int 4, .int 0])), (q32, .inr (8, [.ref q42, .ref q43, .ref q44, .ref q45, w39, w40, w41])), (q29, .inl (g.2 3, 10, .inr (.inr (.inr (.inr f30))))), (q25, .inr (10, [.ref q29, .int 0, .int 0])), (q1, .inr (11, [.ref q25, w15, w16, w17, w18, w19, w20, w21, w22, w23, w24]))] sz 0 (fun _ => [(q29, .inl (g.2 3, 10, .inr (.inr (.inr (.inr f30))))), (q34, .inr (8, [.ref q53, .ref q54, .ref q55, .ref q56, .int 0, .int 4, .int 0])), (q53, .inr (5, [.ref q59, .ref q60])), (q63, .inl (g.2 0, 384, .inl f65)), (q59, .inl (g.2 0, 384, .inl f65)), (q60, .inl (g.2 0, 40, .inl f66)), (q43, .inr (9, [.ref q77, .ref q78, .int 1, .int 0])), (q54, .inr (9, [.ref q71, .ref q72, .int 1, .int 0])), (q77, .inl (g.2 0, 10, .inl f65)), (q71, .inl (g.2 0, 10, .inl f65)), (q78, .inl (g.2 0, 10, .inl f79)), (q72, .inl (g.2 0, 10, .inl f79)), (q55, .inl (g.2 0, 60, .inl f65)), (q45, .inl (g.2 0, 20, .inl f80)), (q56, .inl (g.2 0, 20, .inl f80)), (q44, .inl (g.2 0, 60, .inl (upd (upd (upd (upd (upd f65 0 x2) 1 2) 2 x3) 3 x4) 4 x5))), (q64, .inl (g.2 0, 40, .inl (upd (upd (upd (upd (upd (upd (upd (upd (upd f66 1 0) 4 1) 9 1) 14 1) 19 1) 24 1) 29 1) 34 1) 39 1))), (q42, .inr (5, [.ref q63, .ref q64])), (q25, .inr (10, [.ref q29, .int 1, .int 1])), (q1, .inr (11, [.ref q25, w15, w16, w17, w18, w19, w20, w21, .int 0, .int 0, w24])), (q32, .inr (8, [.ref q42, .ref q43, .ref q44, .ref q45, .int 1, .int 4, .int 0]))])) 0 0 (va_A [(q45, .inl (g.2 0, 20, .inl f80)), (q56, .inl (g.2 0, 20, .inl f80)), (q44, .inl (g.2 0, 60, .inl f65)), (q55, .inl (g.2 0, 60, .inl f65)), (q78, .inl (g.2 0, 10, .inl f79)), (q72, .inl (g.2 0, 10, .inl f79)), (q77, .inl (g.2 0, 10, .inl f65)), (q71, .inl (g.2 0, 10, .inl f65)), (q43, .inr (9, [.ref q77, .ref q78, w75, w76])), (q54, .inr (9, [.ref q71, .ref q72, .int 1, .int 0])), (q64, .inl (g.2 0, 40, .inl f66)), (q60, .inl (g.2 0, 40, .inl f66)), (q63, .inl (g.2 0, 384, .inl f65)), (q59, .inl (g.2 0, 384, .inl f65)), (q42, .inr (5, [.ref q63, .ref q64])), (q53, .inr (5, [.ref q59, .ref q60])), (q34, .inr (8, [.ref q53, .ref q54, .ref q55, .ref q56, .int 0, .int 4, .int 0])), (q32, .inr (8, [.ref q42, .ref q43, .ref q44, .ref q45, w39, w40, w41])), (q29, .inl (g.2 3, 10, .inr (.inr (.inr (.inr f30))))), (q25, .inr (10, [.ref q29, .int 0, .int 0])), (q1, .inr (11, [.ref q25, w15, w16, w17, w18, w19, w20, w21, w22, w23, w24]))] sz) := by
  refine ofN (by decide) (Nat.le_of_ble_eq_true rfl) rfl ?_
  intro p e s m args below meth c A ls hAe hsz hx hb hml hr hlocks hin hown hE hP hD hA hS hl
  have hown : s.vm.findClass RX9 = some m.cls := hown
  refine lv_iload_n hx hb dX9_addClip_0 rfl (lv_at hl 1 rfl) ?_
  refine lv_iconst (v := 0) hx hb dX9_addClip_1 (by decide) ?_
  refine lv_sipush (v := 9999) hx hb dX9_addClip_2 (by decide) ?_
  refine g0_v (rS (rest := []) hx hb hml hown hE hP hD (c1477_X9_requireRange l g x2 h6 h7 s.heap.size) (kS_X9_requireRange hE (e636 hE) rfl rfl ⟨(Nat.le_of_ble_eq_true rfl), (Nat.le_of_ble_eq_true rfl)⟩) [] rfl (by decide) rfl hl.1 rfl (lv_room (Nat.le_of_ble_eq_true rfl)) dX9_addClip_5 ⟨(Nat.le_of_ble_eq_true rfl), (Nat.le_of_ble_eq_true rfl)⟩) hP hD hS hA (fun u9 H locs hP hS => ?_)
  refine lv_iload_n hx hb dX9_addClip_8 rfl (lv_at hl 2 rfl) ?_
  refine lv_iconst (v := 0) hx hb dX9_addClip_9 (by decide) ?_
  refine lv_bipush (v := 7) hx hb dX9_addClip_10 (by decide) ?_
  refine g0_v (rS (rest := []) hx hb hml hown hE hP hD (c1482_X9_requireRange l g 2 (by decide) (by decide) H.size) (kS_X9_requireRange hE (e636 hE) rfl rfl ⟨(Nat.le_of_ble_eq_true rfl), (Nat.le_of_ble_eq_true rfl)⟩) [] rfl (by decide) rfl hl.1 rfl (lv_room (Nat.le_of_ble_eq_true rfl)) dX9_addClip_12 ⟨(Nat.le_of_ble_eq_true rfl), (Nat.le_of_ble_eq_true rfl)⟩) hP hD hS hA (fun u9 H locs hP hS => ?_)
  refine lv_iload_n hx hb dX9_addClip_15 rfl (lv_at hl 3 rfl) ?_
  refine lv_iconst (v := 1) hx hb dX9_addClip_16 (by decide) ?_
  refine lv_bipush (v := 9) hx hb dX9_addClip_17 (by decide) ?_
  refine g0_v (rS (rest := []) hx hb hml hown hE hP hD (c117_X9_requireRange l g x3 h8 h9 H.size) (kS_X9_requireRange hE (e636 hE) rfl rfl ⟨(Nat.le_of_ble_eq_true rfl), (Nat.le_of_ble_eq_true rfl)⟩) [] rfl (by decide) rfl hl.1 rfl (lv_room (Nat.le_of_ble_eq_true rfl)) dX9_addClip_19 ⟨(Nat.le_of_ble_eq_true rfl), (Nat.le_of_ble_eq_true rfl)⟩) hP hD hS hA (fun u9 H locs hP hS => ?_)
  refine lv_iload hx hb dX9_addClip_22 (lv_at hl 4 rfl) ?_
  refine lv_bipush (v := (-50)) hx hb dX9_addClip_24 (by decide) ?_
  refine lv_bipush (v := 50) hx hb dX9_addClip_26 (by decide) ?_
  refine g0_v (rS (rest := []) hx hb hml hown hE hP hD (c1491_X9_requireRange l g x4 h10 h11 H.size) (kS_X9_requireRange hE (e636 hE) rfl rfl ⟨(Nat.le_of_ble_eq_true rfl), (Nat.le_of_ble_eq_true rfl)⟩) [] rfl (by decide) rfl hl.1 rfl (lv_room (Nat.le_of_ble_eq_true rfl)) dX9_addClip_28 ⟨(Nat.le_of_ble_eq_true rfl), (Nat.le_of_ble_eq_true rfl)⟩) hP hD hS hA (fun u9 H locs hP hS => ?_)
  refine lv_iload hx hb dX9_addClip_31 (lv_at hl 5 rfl) ?_
  refine lv_iconst (v := 0) hx hb dX9_addClip_33 (by decide) ?_
  refine lv_iconst (v := 3) hx hb dX9_addClip_34 (by decide) ?_
  refine g0_v (rS (rest := []) hx hb hml hown hE hP hD (c815_X9_requireRange l g x5 h12 h13 H.size) (kS_X9_requireRange hE (e636 hE) rfl rfl ⟨(Nat.le_of_ble_eq_true rfl), (Nat.le_of_ble_eq_true rfl)⟩) [] rfl (by decide) rfl hl.1 rfl (lv_room (Nat.le_of_ble_eq_true rfl)) dX9_addClip_35 ⟨(Nat.le_of_ble_eq_true rfl), (Nat.le_of_ble_eq_true rfl)⟩) hP hD hS hA (fun u9 H locs hP hS => ?_)
  refine lv_aload_n hx hb dX9_addClip_38 rfl (lv_at hl 0 rfl) ?_
  refine gf_RX9_12 hx hb hown hE hP 20 rfl rfl dX9_addClip_39 ?_
  refine g_r (wr := [(q1, .inr (11, [.ref q25, w15, w16, w17, w18, w19, w20, w21, w22, w23, w24]))]) (rV (rest := []) hx hb hml hown hE hP hD 19 rfl rfl (c127_X8_draft l g q25 q29 q32 q34 q42 q53 q59 q63 q60 q64 q43 q54 q71 q77 q72 q78 q55 q44 q56 q45 (.int 0) w39 w40 w41 w75 w76 f30 f65 f66 f79 f80 (hf31) (hf33) H.size) (kV_X8_draft hE (e659 hE) rfl rfl ⟨(Nat.le_of_ble_eq_true rfl), (Nat.le_of_ble_eq_true rfl)⟩) [0, 1, 2, 3, 4, 5, 6, 7, 8, 9, 10, 11, 12, 13, 14, 15, 16, 17, 18, 19] rfl (by decide) rfl hl.1 rfl (lv_room (Nat.le_of_ble_eq_true rfl)) dX9_addClip_42 ⟨(Nat.le_of_ble_eq_true rfl), (Nat.le_of_ble_eq_true rfl)⟩) hP hD hS hA [0, 1, 2, 3, 4, 5, 6, 7, 8, 9, 10, 11, 12, 13, 14, 15, 16, 17, 18, 19] [20] rfl rfl (by decide) (by decide) (fun u6 H locs hP hD hS => ?_)
  have hP : va_P g.1 vwCl [(q1, .inr (11, [.ref q25, w15, w16, w17, w18, w19, w20, w21, w22, w23, w24])), (q29, .inl (g.2 3, 10, .inr (.inr (.inr (.inr f30))))), (q25, .inr (10, [.ref q29, .int 0, .int 0])), (q34, .inr (8, [.ref q53, .ref q54, .ref q55, .ref q56, .int 0, .int 4, .int 0])), (q32, .inr (8, [.ref q42, .ref q43, .ref q44, .ref q45, .int 0, .int 4, .int 0])), (q42, .inr (5, [.ref q63, .ref q64])), (q53, .inr (5, [.ref q59, .ref q60])), (q63, .inl (g.2 0, 384, .inl f65)), (q59, .inl (g.2 0, 384, .inl f65)), (q64, .inl (g.2 0, 40, .inl f66)), (q60, .inl (g.2 0, 40, .inl f66)), (q43, .inr (9, [.ref q77, .ref q78, .int 1, .int 0])), (q54, .inr (9, [.ref q71, .ref q72, .int 1, .int 0])), (q77, .inl (g.2 0, 10, .inl f65)), (q71, .inl (g.2 0, 10, .inl f65)), (q78, .inl (g.2 0, 10, .inl f79)), (q72, .inl (g.2 0, 10, .inl f79)), (q44, .inl (g.2 0, 60, .inl f65)), (q55, .inl (g.2 0, 60, .inl f65)), (q45, .inl (g.2 0, 20, .inl f80)), (q56, .inl (g.2 0, 20, .inl f80))] H := hP
  have hD : va_D A [(q1, .inr (11, [.ref q25, w15, w16, w17, w18, w19, w20, w21, w22, w23, w24])), (q29, .inl (g.2 3, 10, .inr (.inr (.inr (.inr f30))))), (q25, .inr (10, [.ref q29, .int 0, .int 0])), (q34, .inr (8, [.ref q53, .ref q54, .ref q55, .ref q56, .int 0, .int 4, .int 0])), (q32, .inr (8, [.ref q42, .ref q43, .ref q44, .ref q45, .int 0, .int 4, .int 0])), (q42, .inr (5, [.ref q63, .ref q64])), (q53, .inr (5, [.ref q59, .ref q60])), (q63, .inl (g.2 0, 384, .inl f65)), (q59, .inl (g.2 0, 384, .inl f65)), (q64, .inl (g.2 0, 40, .inl f66)), (q60, .inl (g.2 0, 40, .inl f66)), (q43, .inr (9, [.ref q77, .ref q78, .int 1, .int 0])), (q54, .inr (9, [.ref q71, .ref q72, .int 1, .int 0])), (q77, .inl (g.2 0, 10, .inl f65)), (q71, .inl (g.2 0, 10, .inl f65)), (q78, .inl (g.2 0, 10, .inl f79)), (q72, .inl (g.2 0, 10, .inl f79)), (q44, .inl (g.2 0, 60, .inl f65)), (q55, .inl (g.2 0, 60, .inl f65)), (q45, .inl (g.2 0, 20, .inl f80)), (q56, .inl (g.2 0, 20, .inl f80))] := hD
  refine lv_astore (lv' := [(6, .ref q32), (0, .ref q1), (1, .int x2), (2, .int 2), (3, .int x3), (4, .int x4), (5, .int x5)]) hx hb dX9_addClip_45 hl (by decide) rfl (fun ls hl => ?_)
  refine lv_aload hx hb dX9_addClip_47 (lv_at hl 0 rfl) ?_
  refine g_i (wr := [(q1, .inr (11, [.ref q25, w15, w16, w17, w18, w19, w20, w21, w22, w23, w24])), (q29, .inl (g.2 3, 10, .inr (.inr (.inr (.inr f30))))), (q25, .inr (10, [.ref q29, .int 0, .int 0])), (q34, .inr (8, [.ref q53, .ref q54, .ref q55, .ref q56, .int 0, .int 4, .int 0])), (q42, .inr (5, [.ref q63, .ref q64])), (q53, .inr (5, [.ref q59, .ref q60])), (q63, .inl (g.2 0, 384, .inl f65)), (q59, .inl (g.2 0, 384, .inl f65)), (q64, .inl (g.2 0, 40, .inl f66)), (q60, .inl (g.2 0, 40, .inl f66)), (q43, .inr (9, [.ref q77, .ref q78, .int 1, .int 0])), (q54, .inr (9, [.ref q71, .ref q72, .int 1, .int 0])), (q77, .inl (g.2 0, 10, .inl f65)), (q71, .inl (g.2 0, 10, .inl f65)), (q78, .inl (g.2 0, 10, .inl f79)), (q72, .inl (g.2 0, 10, .inl f79)), (q44, .inl (g.2 0, 60, .inl f65)), (q55, .inl (g.2 0, 60, .inl f65)), (q45, .inl (g.2 0, 20, .inl f80)), (q56, .inl (g.2 0, 20, .inl f80))]) (rV (rest := []) hx hb hml hown hE hP hD 4 rfl rfl (c72_X6_clipCount l g q32 (.ref q42) (.ref q43) (.ref q44) (.ref q45) (.int 4) (.int 0) H.size) (kV_X6_clipCount hE (e297 hE) rfl rfl ⟨(Nat.le_of_ble_eq_true rfl), (Nat.le_of_ble_eq_true rfl)⟩) [4] rfl (by decide) rfl hl.1 rfl (lv_room (Nat.le_of_ble_eq_true rfl)) dX9_addClip_49 ⟨(Nat.le_of_ble_eq_true rfl), (Nat.le_of_ble_eq_true rfl)⟩) hP hD hS hA [4] [0, 1, 2, 3, 5, 6, 7, 8, 9, 10, 11, 12, 13, 14, 15, 16, 17, 18, 19, 20] rfl rfl (by decide) (by decide) (fun u7 H locs hP hD hS => ?_)
  have hP : va_P g.1 vwCl [(q1, .inr (11, [.ref q25, w15, w16, w17, w18, w19, w20, w21, w22, w23, w24])), (q29, .inl (g.2 3, 10, .inr (.inr (.inr (.inr f30))))), (q25, .inr (10, [.ref q29, .int 0, .int 0])), (q34, .inr (8, [.ref q53, .ref q54, .ref q55, .ref q56, .int 0, .int 4, .int 0])), (q42, .inr (5, [.ref q63, .ref q64])), (q53, .inr (5, [.ref q59, .ref q60])), (q63, .inl (g.2 0, 384, .inl f65)), (q59, .inl (g.2 0, 384, .inl f65)), (q64, .inl (g.2 0, 40, .inl f66)), (q60, .inl (g.2 0, 40, .inl f66)), (q43, .inr (9, [.ref q77, .ref q78, .int 1, .int 0])), (q54, .inr (9, [.ref q71, .ref q72, .int 1, .int 0])), (q77, .inl (g.2 0, 10, .inl f65)), (q71, .inl (g.2 0, 10, .inl f65)), (q78, .inl (g.2 0, 10, .inl f79)), (q72, .inl (g.2 0, 10, .inl f79)), (q44, .inl (g.2 0, 60, .inl f65)), (q55, .inl (g.2 0, 60, .inl f65)), (q45, .inl (g.2 0, 20, .inl f80)), (q56, .inl (g.2 0, 20, .inl f80)), (q32, .inr (8, [.ref q42, .ref q43, .ref q44, .ref q45, .int 0, .int 4, .int 0]))] H := hP
  have hD : va_D A [(q1, .inr (11, [.ref q25, w15, w16, w17, w18, w19, w20, w21, w22, w23, w24])), (q29, .inl (g.2 3, 10, .inr (.inr (.inr (.inr f30))))), (q25, .inr (10, [.ref q29, .int 0, .int 0])), (q34, .inr (8, [.ref q53, .ref q54, .ref q55, .ref q56, .int 0, .int 4, .int 0])), (q42, .inr (5, [.ref q63, .ref q64])), (q53, .inr (5, [.ref q59, .ref q60])), (q63, .inl (g.2 0, 384, .inl f65)), (q59, .inl (g.2 0, 384, .inl f65)), (q64, .inl (g.2 0, 40, .inl f66)), (q60, .inl (g.2 0, 40, .inl f66)), (q43, .inr (9, [.ref q77, .ref q78, .int 1, .int 0])), (q54, .inr (9, [.ref q71, .ref q72, .int 1, .int 0])), (q77, .inl (g.2 0, 10, .inl f65)), (q71, .inl (g.2 0, 10, .inl f65)), (q78, .inl (g.2 0, 10, .inl f79)), (q72, .inl (g.2 0, 10, .inl f79)), (q44, .inl (g.2 0, 60, .inl f65)), (q55, .inl (g.2 0, 60, .inl f65)), (q45, .inl (g.2 0, 20, .inl f80)), (q56, .inl (g.2 0, 20, .inl f80)), (q32, .inr (8, [.ref q42, .ref q43, .ref q44, .ref q45, .int 0, .int 4, .int 0]))] := hD
  refine lv_bipush (v := 12) hx hb dX9_addClip_52 (by decide) ?_
  refine lv_icmp_lt (tgt := 67) hx hb dX9_addClip_54 (by decide) (fun _ => ?_) (fun h => absurd (by decide) h)
  refine lv_aload hx hb dX9_addClip_67 (lv_at hl 0 rfl) ?_
  refine lv_iload_n hx hb dX9_addClip_69 rfl (lv_at hl 2 rfl) ?_
  refine lv_iload_n hx hb dX9_addClip_70 rfl (lv_at hl 3 rfl) ?_
  refine lv_iload_n hx hb dX9_addClip_71 rfl (lv_at hl 4 rfl) ?_
  refine lv_iload hx hb dX9_addClip_72 (lv_at hl 5 rfl) ?_
  refine lv_iload hx hb dX9_addClip_74 (lv_at hl 6 rfl) ?_
  refine g_v (wr := [(q1, .inr (11, [.ref q25, w15, w16, w17, w18, w19, w20, w21, w22, w23, w24])), (q29, .inl (g.2 3, 10, .inr (.inr (.inr (.inr f30))))), (q25, .inr (10, [.ref q29, .int 0, .int 0])), (q34, .inr (8, [.ref q53, .ref q54, .ref q55, .ref q56, .int 0, .int 4, .int 0])), (q42, .inr (5, [.ref q63, .ref q64])), (q53, .inr (5, [.ref q59, .ref q60])), (q63, .inl (g.2 0, 384, .inl f65)), (q59, .inl (g.2 0, 384, .inl f65)), (q64, .inl (g.2 0, 40, .inl f66)), (q60, .inl (g.2 0, 40, .inl f66)), (q43, .inr (9, [.ref q77, .ref q78, .int 1, .int 0])), (q54, .inr (9, [.ref q71, .ref q72, .int 1, .int 0])), (q77, .inl (g.2 0, 10, .inl f65)), (q71, .inl (g.2 0, 10, .inl f65)), (q78, .inl (g.2 0, 10, .inl f79)), (q72, .inl (g.2 0, 10, .inl f79)), (q55, .inl (g.2 0, 60, .inl f65)), (q45, .inl (g.2 0, 20, .inl f80)), (q56, .inl (g.2 0, 20, .inl f80))]) (rV (rest := []) hx hb hml hown hE hP hD 20 rfl rfl (c1501_X6_putClip l g q32 q44 x2 2 x3 x4 x5 (.ref q42) (.ref q43) (.ref q45) (.int 4) (.int 0) f65 H.size) (kV_X6_putClip hE (e808 hE) rfl rfl ⟨(Nat.le_of_ble_eq_true rfl), (Nat.le_of_ble_eq_true rfl)⟩) [16, 20] rfl (by decide) rfl hl.1 rfl (lv_room (Nat.le_of_ble_eq_true rfl)) dX9_addClip_76 ⟨(Nat.le_of_ble_eq_true rfl), (Nat.le_of_ble_eq_true rfl)⟩) hP hD hS hA [16, 20] [0, 1, 2, 3, 4, 5, 6, 7, 8, 9, 10, 11, 12, 13, 14, 15, 17, 18, 19] rfl rfl (by decide) (by decide) (fun u8 H locs hP hD hS => ?_)
  have hP : va_P g.1 vwCl [(q1, .inr (11, [.ref q25, w15, w16, w17, w18, w19, w20, w21, w22, w23, w24])), (q29, .inl (g.2 3, 10, .inr (.inr (.inr (.inr f30))))), (q25, .inr (10, [.ref q29, .int 0, .int 0])), (q34, .inr (8, [.ref q53, .ref q54, .ref q55, .ref q56, .int 0, .int 4, .int 0])), (q42, .inr (5, [.ref q63, .ref q64])), (q53, .inr (5, [.ref q59, .ref q60])), (q63, .inl (g.2 0, 384, .inl f65)), (q59, .inl (g.2 0, 384, .inl f65)), (q64, .inl (g.2 0, 40, .inl f66)), (q60, .inl (g.2 0, 40, .inl f66)), (q43, .inr (9, [.ref q77, .ref q78, .int 1, .int 0])), (q54, .inr (9, [.ref q71, .ref q72, .int 1, .int 0])), (q77, .inl (g.2 0, 10, .inl f65)), (q71, .inl (g.2 0, 10, .inl f65)), (q78, .inl (g.2 0, 10, .inl f79)), (q72, .inl (g.2 0, 10, .inl f79)), (q55, .inl (g.2 0, 60, .inl f65)), (q45, .inl (g.2 0, 20, .inl f80)), (q56, .inl (g.2 0, 20, .inl f80)), (q32, .inr (8, [.ref q42, .ref q43, .ref q44, .ref q45, .int 1, .int 4, .int 0])), (q44, .inl (g.2 0, 60, .inl (upd (upd (upd (upd (upd f65 0 x2) 1 2) 2 x3) 3 x4) 4 x5)))] H := hP
  have hD : va_D A [(q1, .inr (11, [.ref q25, w15, w16, w17, w18, w19, w20, w21, w22, w23, w24])), (q29, .inl (g.2 3, 10, .inr (.inr (.inr (.inr f30))))), (q25, .inr (10, [.ref q29, .int 0, .int 0])), (q34, .inr (8, [.ref q53, .ref q54, .ref q55, .ref q56, .int 0, .int 4, .int 0])), (q42, .inr (5, [.ref q63, .ref q64])), (q53, .inr (5, [.ref q59, .ref q60])), (q63, .inl (g.2 0, 384, .inl f65)), (q59, .inl (g.2 0, 384, .inl f65)), (q64, .inl (g.2 0, 40, .inl f66)), (q60, .inl (g.2 0, 40, .inl f66)), (q43, .inr (9, [.ref q77, .ref q78, .int 1, .int 0])), (q54, .inr (9, [.ref q71, .ref q72, .int 1, .int 0])), (q77, .inl (g.2 0, 10, .inl f65)), (q71, .inl (g.2 0, 10, .inl f65)), (q78, .inl (g.2 0, 10, .inl f79)), (q72, .inl (g.2 0, 10, .inl f79)), (q55, .inl (g.2 0, 60, .inl f65)), (q45, .inl (g.2 0, 20, .inl f80)), (q56, .inl (g.2 0, 20, .inl f80)), (q32, .inr (8, [.ref q42, .ref q43, .ref q44, .ref q45, .int 1, .int 4, .int 0])), (q44, .inl (g.2 0, 60, .inl (upd (upd (upd (upd (upd f65 0 x2) 1 2) 2 x3) 3 x4) 4 x5)))] := hD
  refine lv_aload_n hx hb dX9_addClip_79 rfl (lv_at hl 1 rfl) ?_
  refine lv_aload hx hb dX9_addClip_80 (lv_at hl 0 rfl) ?_
  refine g_v (wr := [(q29, .inl (g.2 3, 10, .inr (.inr (.inr (.inr f30))))), (q34, .inr (8, [.ref q53, .ref q54, .ref q55, .ref q56, .int 0, .int 4, .int 0])), (q53, .inr (5, [.ref q59, .ref q60])), (q63, .inl (g.2 0, 384, .inl f65)), (q59, .inl (g.2 0, 384, .inl f65)), (q60, .inl (g.2 0, 40, .inl f66)), (q43, .inr (9, [.ref q77, .ref q78, .int 1, .int 0])), (q54, .inr (9, [.ref q71, .ref q72, .int 1, .int 0])), (q77, .inl (g.2 0, 10, .inl f65)), (q71, .inl (g.2 0, 10, .inl f65)), (q78, .inl (g.2 0, 10, .inl f79)), (q72, .inl (g.2 0, 10, .inl f79)), (q55, .inl (g.2 0, 60, .inl f65)), (q45, .inl (g.2 0, 20, .inl f80)), (q56, .inl (g.2 0, 20, .inl f80))]) (rV (rest := []) hx hb hml hown hE hP hD 0 rfl rfl (c1528_X9_acceptIfFitting l g q1 q32 q42 q63 q64 q44 q25 x3 (.ref q43) (.ref q45) (.int 4) (.int 0) w15 w16 w17 w18 w19 w20 w21 w22 w23 w24 (.ref q29) f66 (upd (upd (upd (upd (upd f65 0 x2) 1 2) 2 x3) 3 x4) 4 x5) (hf81) (hf82) (hf83) (hf84) (hf85) (hf86) (hf87) (hf88) (hf89) (hf90) (hf91) (hf92) (hf93) (hf94) (hf95) (hf96) (hf97) (hf98) (hf99) (hf100) (hf101) (hf102) (hf103) (hf104) (hf105) (hf106) (hf107) (hf108) (hf109) (hf110) (hf111) (((pk_un (by decide)).trans ((pk_un (by decide)).trans pk_us))) (((pk_un (by decide)).trans ((pk_un (by decide)).trans ((pk_un (by decide)).trans pk_us)))) H.size) (kV_X9_acceptIfFitting hE (e690 hE) rfl rfl ⟨(Nat.le_of_ble_eq_true rfl), (Nat.le_of_ble_eq_true rfl)⟩) [2, 0, 20, 8, 4, 19] rfl (by decide) rfl hl.1 rfl (lv_room (Nat.le_of_ble_eq_true rfl)) dX9_addClip_82 ⟨(Nat.le_of_ble_eq_true rfl), (Nat.le_of_ble_eq_true rfl)⟩) hP hD hS hA [2, 0, 20, 8, 4, 19] [1, 3, 5, 6, 7, 9, 10, 11, 12, 13, 14, 15, 16, 17, 18] rfl rfl (by decide) (by decide) (fun u9 H locs hP hD hS => ?_)
  have hP : va_P g.1 vwCl [(q29, .inl (g.2 3, 10, .inr (.inr (.inr (.inr f30))))), (q34, .inr (8, [.ref q53, .ref q54, .ref q55, .ref q56, .int 0, .int 4, .int 0])), (q53, .inr (5, [.ref q59, .ref q60])), (q63, .inl (g.2 0, 384, .inl f65)), (q59, .inl (g.2 0, 384, .inl f65)), (q60, .inl (g.2 0, 40, .inl f66)), (q43, .inr (9, [.ref q77, .ref q78, .int 1, .int 0])), (q54, .inr (9, [.ref q71, .ref q72, .int 1, .int 0])), (q77, .inl (g.2 0, 10, .inl f65)), (q71, .inl (g.2 0, 10, .inl f65)), (q78, .inl (g.2 0, 10, .inl f79)), (q72, .inl (g.2 0, 10, .inl f79)), (q55, .inl (g.2 0, 60, .inl f65)), (q45, .inl (g.2 0, 20, .inl f80)), (q56, .inl (g.2 0, 20, .inl f80)), (q44, .inl (g.2 0, 60, .inl (upd (upd (upd (upd (upd f65 0 x2) 1 2) 2 x3) 3 x4) 4 x5))), (q32, .inr (8, [.ref q42, .ref q43, .ref q44, .ref q45, .int 1, .int 4, .int 0])), (q64, .inl (g.2 0, 40, .inl (upd (upd (upd (upd (upd (upd (upd (upd (upd f66 1 0) 4 1) 9 1) 14 1) 19 1) 24 1) 29 1) 34 1) 39 1))), (q42, .inr (5, [.ref q63, .ref q64])), (q25, .inr (10, [.ref q29, .int 1, .int 1])), (q1, .inr (11, [.ref q25, w15, w16, w17, w18, w19, w20, w21, .int 0, .int 0, w24]))] H := hP
  have hD : va_D A [(q29, .inl (g.2 3, 10, .inr (.inr (.inr (.inr f30))))), (q34, .inr (8, [.ref q53, .ref q54, .ref q55, .ref q56, .int 0, .int 4, .int 0])), (q53, .inr (5, [.ref q59, .ref q60])), (q63, .inl (g.2 0, 384, .inl f65)), (q59, .inl (g.2 0, 384, .inl f65)), (q60, .inl (g.2 0, 40, .inl f66)), (q43, .inr (9, [.ref q77, .ref q78, .int 1, .int 0])), (q54, .inr (9, [.ref q71, .ref q72, .int 1, .int 0])), (q77, .inl (g.2 0, 10, .inl f65)), (q71, .inl (g.2 0, 10, .inl f65)), (q78, .inl (g.2 0, 10, .inl f79)), (q72, .inl (g.2 0, 10, .inl f79)), (q55, .inl (g.2 0, 60, .inl f65)), (q45, .inl (g.2 0, 20, .inl f80)), (q56, .inl (g.2 0, 20, .inl f80)), (q44, .inl (g.2 0, 60, .inl (upd (upd (upd (upd (upd f65 0 x2) 1 2) 2 x3) 3 x4) 4 x5))), (q32, .inr (8, [.ref q42, .ref q43, .ref q44, .ref q45, .int 1, .int 4, .int 0])), (q64, .inl (g.2 0, 40, .inl (upd (upd (upd (upd (upd (upd (upd (upd (upd f66 1 0) 4 1) 9 1) 14 1) 19 1) 24 1) 29 1) 34 1) 39 1))), (q42, .inr (5, [.ref q63, .ref q64])), (q25, .inr (10, [.ref q29, .int 1, .int 1])), (q1, .inr (11, [.ref q25, w15, w16, w17, w18, w19, w20, w21, .int 0, .int 0, w24]))] := hD
  refine lv_aload hx hb dX9_addClip_85 (lv_at hl 0 rfl) ?_
  refine g_i (wr := [(q29, .inl (g.2 3, 10, .inr (.inr (.inr (.inr f30))))), (q34, .inr (8, [.ref q53, .ref q54, .ref q55, .ref q56, .int 0, .int 4, .int 0])), (q53, .inr (5, [.ref q59, .ref q60])), (q63, .inl (g.2 0, 384, .inl f65)), (q59, .inl (g.2 0, 384, .inl f65)), (q60, .inl (g.2 0, 40, .inl f66)), (q43, .inr (9, [.ref q77, .ref q78, .int 1, .int 0])), (q54, .inr (9, [.ref q71, .ref q72, .int 1, .int 0])), (q77, .inl (g.2 0, 10, .inl f65)), (q71, .inl (g.2 0, 10, .inl f65)), (q78, .inl (g.2 0, 10, .inl f79)), (q72, .inl (g.2 0, 10, .inl f79)), (q55, .inl (g.2 0, 60, .inl f65)), (q45, .inl (g.2 0, 20, .inl f80)), (q56, .inl (g.2 0, 20, .inl f80)), (q44, .inl (g.2 0, 60, .inl (upd (upd (upd (upd (upd f65 0 x2) 1 2) 2 x3) 3 x4) 4 x5))), (q64, .inl (g.2 0, 40, .inl (upd (upd (upd (upd (upd (upd (upd (upd (upd f66 1 0) 4 1) 9 1) 14 1) 19 1) 24 1) 29 1) 34 1) 39 1))), (q42, .inr (5, [.ref q63, .ref q64])), (q25, .inr (10, [.ref q29, .int 1, .int 1])), (q1, .inr (11, [.ref q25, w15, w16, w17, w18, w19, w20, w21, .int 0, .int 0, w24]))]) (rV (rest := []) hx hb hml hown hE hP hD 16 rfl rfl (c1509_X6_clipCount l g q32 (.ref q42) (.ref q43) (.ref q44) (.ref q45) (.int 4) (.int 0) H.size) (kV_X6_clipCount hE (e297 hE) rfl rfl ⟨(Nat.le_of_ble_eq_true rfl), (Nat.le_of_ble_eq_true rfl)⟩) [16] rfl (by decide) rfl hl.1 rfl (lv_room (Nat.le_of_ble_eq_true rfl)) dX9_addClip_87 ⟨(Nat.le_of_ble_eq_true rfl), (Nat.le_of_ble_eq_true rfl)⟩) hP hD hS hA [16] [0, 1, 2, 3, 4, 5, 6, 7, 8, 9, 10, 11, 12, 13, 14, 15, 17, 18, 19, 20] rfl rfl (by decide) (by decide) (fun u10 H locs hP hD hS => ?_)
  have hP : va_P g.1 vwCl [(q29, .inl (g.2 3, 10, .inr (.inr (.inr (.inr f30))))), (q34, .inr (8, [.ref q53, .ref q54, .ref q55, .ref q56, .int 0, .int 4, .int 0])), (q53, .inr (5, [.ref q59, .ref q60])), (q63, .inl (g.2 0, 384, .inl f65)), (q59, .inl (g.2 0, 384, .inl f65)), (q60, .inl (g.2 0, 40, .inl f66)), (q43, .inr (9, [.ref q77, .ref q78, .int 1, .int 0])), (q54, .inr (9, [.ref q71, .ref q72, .int 1, .int 0])), (q77, .inl (g.2 0, 10, .inl f65)), (q71, .inl (g.2 0, 10, .inl f65)), (q78, .inl (g.2 0, 10, .inl f79)), (q72, .inl (g.2 0, 10, .inl f79)), (q55, .inl (g.2 0, 60, .inl f65)), (q45, .inl (g.2 0, 20, .inl f80)), (q56, .inl (g.2 0, 20, .inl f80)), (q44, .inl (g.2 0, 60, .inl (upd (upd (upd (upd (upd f65 0 x2) 1 2) 2 x3) 3 x4) 4 x5))), (q64, .inl (g.2 0, 40, .inl (upd (upd (upd (upd (upd (upd (upd (upd (upd f66 1 0) 4 1) 9 1) 14 1) 19 1) 24 1) 29 1) 34 1) 39 1))), (q42, .inr (5, [.ref q63, .ref q64])), (q25, .inr (10, [.ref q29, .int 1, .int 1])), (q1, .inr (11, [.ref q25, w15, w16, w17, w18, w19, w20, w21, .int 0, .int 0, w24])), (q32, .inr (8, [.ref q42, .ref q43, .ref q44, .ref q45, .int 1, .int 4, .int 0]))] H := hP
  have hD : va_D A [(q29, .inl (g.2 3, 10, .inr (.inr (.inr (.inr f30))))), (q34, .inr (8, [.ref q53, .ref q54, .ref q55, .ref q56, .int 0, .int 4, .int 0])), (q53, .inr (5, [.ref q59, .ref q60])), (q63, .inl (g.2 0, 384, .inl f65)), (q59, .inl (g.2 0, 384, .inl f65)), (q60, .inl (g.2 0, 40, .inl f66)), (q43, .inr (9, [.ref q77, .ref q78, .int 1, .int 0])), (q54, .inr (9, [.ref q71, .ref q72, .int 1, .int 0])), (q77, .inl (g.2 0, 10, .inl f65)), (q71, .inl (g.2 0, 10, .inl f65)), (q78, .inl (g.2 0, 10, .inl f79)), (q72, .inl (g.2 0, 10, .inl f79)), (q55, .inl (g.2 0, 60, .inl f65)), (q45, .inl (g.2 0, 20, .inl f80)), (q56, .inl (g.2 0, 20, .inl f80)), (q44, .inl (g.2 0, 60, .inl (upd (upd (upd (upd (upd f65 0 x2) 1 2) 2 x3) 3 x4) 4 x5))), (q64, .inl (g.2 0, 40, .inl (upd (upd (upd (upd (upd (upd (upd (upd (upd f66 1 0) 4 1) 9 1) 14 1) 19 1) 24 1) 29 1) 34 1) 39 1))), (q42, .inr (5, [.ref q63, .ref q64])), (q25, .inr (10, [.ref q29, .int 1, .int 1])), (q1, .inr (11, [.ref q25, w15, w16, w17, w18, w19, w20, w21, .int 0, .int 0, w24])), (q32, .inr (8, [.ref q42, .ref q43, .ref q44, .ref q45, .int 1, .int 4, .int 0]))] := hD
  refine lv_iconst (v := 1) hx hb dX9_addClip_90 (by decide) ?_
  refine x_isub (v := 0) hx hb dX9_addClip_91 (by decide) ?_
  exact x_zret hx hb hr rfl rfl hlocks hP hD hS hAe hsz (Nat.le_of_ble_eq_true rfl) (Nat.le_of_ble_eq_true rfl) (fun _ => 0) [0, 1, 2, 3, 4, 5, 6, 7, 8, 9, 10, 11, 12, 13, 14, 15, 16, 17, 18, 19, 20] (by decide) rfl dX9_addClip_92

set_option maxHeartbeats 4000000 in
set_option maxRecDepth 100000 in
theorem c1530_L_addClip (l : Launch) (g : gG) (hlx : l.stackTraces = false) (q1 q6 q26 q30 q33 q35 q43 q44 q45 q46 q54 q55 q56 q57 q60 q61 q64 q65 q72 q73 q78 q79 : Nat) (x2 x3 x4 x5 : Int32) (w16 w17 w18 w19 w20 w21 w22 w23 w24 w25 w40 w41 w42 w76 w77 : Value) (f31 : Nat → Option Nat) (f66 : Nat → Int32) (f67 : Nat → Int32) (f80 : Nat → Int32) (f81 : Nat → Int32) (f113 : Nat → Int64) (hf32 : f31 1 = some q33) (hf34 : f31 0 = some q35) (hf82 : f67 0 = 0) (hf83 : f67 2 = 0) (hf84 : f67 3 = 0) (hf85 : f67 5 = 0) (hf86 : f67 6 = 0) (hf87 : f67 7 = 0) (hf88 : f67 8 = 0) (hf89 : f67 10 = 0) (hf90 : f67 11 = 0) (hf91 : f67 12 = 0) (hf92 : f67 13 = 0) (hf93 : f67 15 = 0) (hf94 : f67 16 = 0) (hf95 : f67 17 = 0) (hf96 : f67 18 = 0) (hf97 : f67 20 = 0) (hf98 : f67 21 = 0) (hf99 : f67 22 = 0) (hf100 : f67 23 = 0) (hf101 : f67 25 = 0) (hf102 : f67 26 = 0) (hf103 : f67 27 = 0) (hf104 : f67 28 = 0) (hf105 : f67 30 = 0) (hf106 : f67 31 = 0) (hf107 : f67 32 = 0) (hf108 : f67 33 = 0) (hf109 : f67 35 = 0) (hf110 : f67 36 = 0) (hf111 : f67 37 = 0) (hf112 : f67 38 = 0) (h7 : (0 : Int32) ≤ x2) (h8 : x2 ≤ 9999) (h9 : (1 : Int32) ≤ x3) (h10 : x3 ≤ 9) (h11 : ((-50) : Int32) ≤ x4) (h12 : x4 ≤ 50) (h13 : (0 : Int32) ≤ x5) (h14 : x5 ≤ 3) (sz : Nat) : Met l yL_addClip [Cond.codeWith yL_addClip cL_addClip 8 (some .int) [(0, 16, 19, 15), (0, 16, 23, 17)]] ({ frames := 6, cells := 0, slots := 0, locals := 174 } : Room) (va_Pc [.ref q1, .int x2, .int 2, .int x3, .int x4, .int x5, .ref q6] (PZ g sz [(q6, .inl (g.2 1, 1, .inr (.inl f113))), (q46, .inl (g.2 0, 20, .inl f81)), (q57, .inl (g.2 0, 20, .inl f81)), (q45, .inl (g.2 0, 60, .inl f66)), (q56, .inl (g.2 0, 60, .inl f66)), (q79, .inl (g.2 0, 10, .inl f80)), (q73, .inl (g.2 0, 10, .inl f80)), (q78, .inl (g.2 0, 10, .inl f66)), (q72, .inl (g.2 0, 10, .inl f66)), (q44, .inr (9, [.ref q78, .ref q79, w76, w77])), (q55, .inr (9, [.ref q72, .ref q73, .int 1, .int 0])), (q65, .inl (g.2 0, 40, .inl f67)), (q61, .inl (g.2 0, 40, .inl f67)), (q64, .inl (g.2 0, 384, .inl f66)), (q60, .inl (g.2 0, 384, .inl f66)), (q43, .inr (5, [.ref q64, .ref q65])), (q54, .inr (5, [.ref q60, .ref q61])), (q35, .inr (8, [.ref q54, .ref q55, .ref q56, .ref q57, .int 0, .int 4, .int 0])), (q33, .inr (8, [.ref q43, .ref q44, .ref q45, .ref q46, w40, w41, w42])), (q30, .inl (g.2 3, 10, .inr (.inr (.inr (.inr f31))))), (q26, .inr (10, [.ref q30, .int 0, .int 0])), (q1, .inr (11, [.ref q26, w16, w17, w18, w19, w20, w21, w22, w23, w24, w25]))])) (QI g [(q6, .inl (g.2 1, 1, .inr (.inl f113))), (q46, .inl (g.2 0, 20, .inl f81)), (q57, .inl (g.2 0, 20, .inl f81)), (q45, .inl (g.2 0, 60, .inl f66)), (q56, .inl (g.2 0, 60, .inl f66)), (q79, .inl (g.2 0, 10, .inl f80)), (q73, .inl (g.2 0, 10, .inl f80)), (q78, .inl (g.2 0, 10, .inl f66)), (q72, .inl (g.2 0, 10, .inl f66)), (q44, .inr (9, [.ref q78, .ref q79, w76, w77])), (q55, .inr (9, [.ref q72, .ref q73, .int 1, .int 0])), (q65, .inl (g.2 0, 40, .inl f67)), (q61, .inl (g.2 0, 40, .inl f67)), (q64, .inl (g.2 0, 384, .inl f66)), (q60, .inl (g.2 0, 384, .inl f66)), (q43, .inr (5, [.ref q64, .ref q65])), (q54, .inr (5, [.ref q60, .ref q61])), (q35, .inr (8, [.ref q54, .ref q55, .ref q56, .ref q57, .int 0, .int 4, .int 0])), (q33, .inr (8, [.ref q43, .ref q44, .ref q45, .ref q46, w40, w41, w42])), (q30, .inl (g.2 3, 10, .inr (.inr (.inr (.inr f31))))), (q26, .inr (10, [.ref q30, .int 0, .int 0])), (q1, .inr (11, [.ref q26, w16, w17, w18, w19, w20, w21, w22, w23, w24, w25]))] sz 0 (fun _ => [(q6, .inl (g.2 1, 1, .inr (.inl (vp_updL f113 0 0))))])) 0 0 (va_A [(q6, .inl (g.2 1, 1, .inr (.inl f113))), (q46, .inl (g.2 0, 20, .inl f81)), (q57, .inl (g.2 0, 20, .inl f81)), (q45, .inl (g.2 0, 60, .inl f66)), (q56, .inl (g.2 0, 60, .inl f66)), (q79, .inl (g.2 0, 10, .inl f80)), (q73, .inl (g.2 0, 10, .inl f80)), (q78, .inl (g.2 0, 10, .inl f66)), (q72, .inl (g.2 0, 10, .inl f66)), (q44, .inr (9, [.ref q78, .ref q79, w76, w77])), (q55, .inr (9, [.ref q72, .ref q73, .int 1, .int 0])), (q65, .inl (g.2 0, 40, .inl f67)), (q61, .inl (g.2 0, 40, .inl f67)), (q64, .inl (g.2 0, 384, .inl f66)), (q60, .inl (g.2 0, 384, .inl f66)), (q43, .inr (5, [.ref q64, .ref q65])), (q54, .inr (5, [.ref q60, .ref q61])), (q35, .inr (8, [.ref q54, .ref q55, .ref q56, .ref q57, .int 0, .int 4, .int 0])), (q33, .inr (8, [.ref q43, .ref q44, .ref q45, .ref q46, w40, w41, w42])), (q30, .inl (g.2 3, 10, .inr (.inr (.inr (.inr f31))))), (q26, .inr (10, [.ref q30, .int 0, .int 0])), (q1, .inr (11, [.ref q26, w16, w17, w18, w19, w20, w21, w22, w23, w24, w25]))] sz) := by
  refine ofH (by decide) (Nat.le_of_ble_eq_true rfl) rfl ?_
  intro p e s m args below meth c A ls hAe hsz hx hb hml hr hlocks hin hown hE hP hD hA hS hl htb hz
  have hown : s.vm.findClass RL = some m.cls := hown
  refine lv_aload hx hb dL_addClip_0 (lv_at hl 6 rfl) ?_
  refine lv_iconst (v := 0) hx hb dL_addClip_2 (by decide) ?_
  refine lv_aload_n hx hb dL_addClip_3 rfl (lv_at hl 0 rfl) ?_
  refine lv_iload_n hx hb dL_addClip_4 rfl (lv_at hl 1 rfl) ?_
  refine lv_iload_n hx hb dL_addClip_5 rfl (lv_at hl 2 rfl) ?_
  refine lv_iload_n hx hb dL_addClip_6 rfl (lv_at hl 3 rfl) ?_
  refine lv_iload hx hb dL_addClip_7 (lv_at hl 4 rfl) ?_
  refine lv_iload hx hb dL_addClip_9 (lv_at hl 5 rfl) ?_
  refine g_i (wr := [(q6, .inl (g.2 1, 1, .inr (.inl f113)))]) (rV (rest := [.int 0, .ref q6]) hx hb hml hown hE hP hD 21 rfl rfl (c1529_X9_addClip l g q1 q26 q30 q33 q35 q43 q44 q45 q46 q54 q55 q56 q57 q60 q61 q64 q65 q72 q73 q78 q79 x2 x3 x4 x5 w16 w17 w18 w19 w20 w21 w22 w23 w24 w25 w40 w41 w42 w76 w77 f31 f66 f67 f80 f81 (hf32) (hf34) (hf82) (hf83) (hf84) (hf85) (hf86) (hf87) (hf88) (hf89) (hf90) (hf91) (hf92) (hf93) (hf94) (hf95) (hf96) (hf97) (hf98) (hf99) (hf100) (hf101) (hf102) (hf103) (hf104) (hf105) (hf106) (hf107) (hf108) (hf109) (hf110) (hf111) (hf112) h7 h8 h9 h10 h11 h12 h13 h14 s.heap.size) (kV_X9_addClip hE (e803 hE) rfl rfl ⟨(Nat.le_of_ble_eq_true rfl), (Nat.le_of_ble_eq_true rfl)⟩) [1, 2, 3, 4, 5, 6, 7, 8, 9, 10, 11, 12, 13, 14, 15, 16, 17, 18, 19, 20, 21] rfl (by decide) rfl hl.1 rfl (lv_room (Nat.le_of_ble_eq_true rfl)) dL_addClip_11 ⟨(Nat.le_of_ble_eq_true rfl), (Nat.le_of_ble_eq_true rfl)⟩) hP hD hS hA [1, 2, 3, 4, 5, 6, 7, 8, 9, 10, 11, 12, 13, 14, 15, 16, 17, 18, 19, 20, 21] [0] rfl rfl (by decide) (by decide) (fun u1 H locs hP hD hS => ?_)
  have hP : va_P g.1 vwCl [(q6, .inl (g.2 1, 1, .inr (.inl f113))), (q30, .inl (g.2 3, 10, .inr (.inr (.inr (.inr f31))))), (q35, .inr (8, [.ref q54, .ref q55, .ref q56, .ref q57, .int 0, .int 4, .int 0])), (q54, .inr (5, [.ref q60, .ref q61])), (q64, .inl (g.2 0, 384, .inl f66)), (q60, .inl (g.2 0, 384, .inl f66)), (q61, .inl (g.2 0, 40, .inl f67)), (q44, .inr (9, [.ref q78, .ref q79, .int 1, .int 0])), (q55, .inr (9, [.ref q72, .ref q73, .int 1, .int 0])), (q78, .inl (g.2 0, 10, .inl f66)), (q72, .inl (g.2 0, 10, .inl f66)), (q79, .inl (g.2 0, 10, .inl f80)), (q73, .inl (g.2 0, 10, .inl f80)), (q56, .inl (g.2 0, 60, .inl f66)), (q46, .inl (g.2 0, 20, .inl f81)), (q57, .inl (g.2 0, 20, .inl f81)), (q45, .inl (g.2 0, 60, .inl (upd (upd (upd (upd (upd f66 0 x2) 1 2) 2 x3) 3 x4) 4 x5))), (q65, .inl (g.2 0, 40, .inl (upd (upd (upd (upd (upd (upd (upd (upd (upd f67 1 0) 4 1) 9 1) 14 1) 19 1) 24 1) 29 1) 34 1) 39 1))), (q43, .inr (5, [.ref q64, .ref q65])), (q26, .inr (10, [.ref q30, .int 1, .int 1])), (q1, .inr (11, [.ref q26, w16, w17, w18, w19, w20, w21, w22, .int 0, .int 0, w25])), (q33, .inr (8, [.ref q43, .ref q44, .ref q45, .ref q46, .int 1, .int 4, .int 0]))] H := hP
  have hD : va_D A [(q6, .inl (g.2 1, 1, .inr (.inl f113))), (q30, .inl (g.2 3, 10, .inr (.inr (.inr (.inr f31))))), (q35, .inr (8, [.ref q54, .ref q55, .ref q56, .ref q57, .int 0, .int 4, .int 0])), (q54, .inr (5, [.ref q60, .ref q61])), (q64, .inl (g.2 0, 384, .inl f66)), (q60, .inl (g.2 0, 384, .inl f66)), (q61, .inl (g.2 0, 40, .inl f67)), (q44, .inr (9, [.ref q78, .ref q79, .int 1, .int 0])), (q55, .inr (9, [.ref q72, .ref q73, .int 1, .int 0])), (q78, .inl (g.2 0, 10, .inl f66)), (q72, .inl (g.2 0, 10, .inl f66)), (q79, .inl (g.2 0, 10, .inl f80)), (q73, .inl (g.2 0, 10, .inl f80)), (q56, .inl (g.2 0, 60, .inl f66)), (q46, .inl (g.2 0, 20, .inl f81)), (q57, .inl (g.2 0, 20, .inl f81)), (q45, .inl (g.2 0, 60, .inl (upd (upd (upd (upd (upd f66 0 x2) 1 2) 2 x3) 3 x4) 4 x5))), (q65, .inl (g.2 0, 40, .inl (upd (upd (upd (upd (upd (upd (upd (upd (upd f67 1 0) 4 1) 9 1) 14 1) 19 1) 24 1) 29 1) 34 1) 39 1))), (q43, .inr (5, [.ref q64, .ref q65])), (q26, .inr (10, [.ref q30, .int 1, .int 1])), (q1, .inr (11, [.ref q26, w16, w17, w18, w19, w20, w21, w22, .int 0, .int 0, w25])), (q33, .inr (8, [.ref q43, .ref q44, .ref q45, .ref q46, .int 1, .int 4, .int 0]))] := hD
  refine lv_i2l (v := 0) hx hb dL_addClip_14 (by decide) ?_
  refine x_last (ws' := [(q6, .inl (g.2 1, 1, .inr (.inl (vp_updL f113 0 0)))), (q30, .inl (g.2 3, 10, .inr (.inr (.inr (.inr f31))))), (q35, .inr (8, [.ref q54, .ref q55, .ref q56, .ref q57, .int 0, .int 4, .int 0])), (q54, .inr (5, [.ref q60, .ref q61])), (q64, .inl (g.2 0, 384, .inl f66)), (q60, .inl (g.2 0, 384, .inl f66)), (q61, .inl (g.2 0, 40, .inl f67)), (q44, .inr (9, [.ref q78, .ref q79, .int 1, .int 0])), (q55, .inr (9, [.ref q72, .ref q73, .int 1, .int 0])), (q78, .inl (g.2 0, 10, .inl f66)), (q72, .inl (g.2 0, 10, .inl f66)), (q79, .inl (g.2 0, 10, .inl f80)), (q73, .inl (g.2 0, 10, .inl f80)), (q56, .inl (g.2 0, 60, .inl f66)), (q46, .inl (g.2 0, 20, .inl f81)), (q57, .inl (g.2 0, 20, .inl f81)), (q45, .inl (g.2 0, 60, .inl (upd (upd (upd (upd (upd f66 0 x2) 1 2) 2 x3) 3 x4) 4 x5))), (q65, .inl (g.2 0, 40, .inl (upd (upd (upd (upd (upd (upd (upd (upd (upd f67 1 0) 4 1) 9 1) 14 1) 19 1) 24 1) 29 1) 34 1) 39 1))), (q43, .inr (5, [.ref q64, .ref q65])), (q26, .inr (10, [.ref q30, .int 1, .int 1])), (q1, .inr (11, [.ref q26, w16, w17, w18, w19, w20, w21, w22, .int 0, .int 0, w25])), (q33, .inr (8, [.ref q43, .ref q44, .ref q45, .ref q46, .int 1, .int 4, .int 0]))]) hx hb hE hP hD hS 0 rfl 0 (x_in (by decide)) (by decide) dL_addClip_15 rfl (fun H locs hP hD hS => ?_)
  refine lv_goto (tgt := 27) hx hb dL_addClip_16 (by decide) ?_
  refine lv_iconst (v := 0) hx hb dL_addClip_27 (by decide) ?_
  exact x_zret hx hb hr rfl rfl hlocks hP hD hS hAe hsz (Nat.le_of_ble_eq_true rfl) (Nat.le_of_ble_eq_true rfl) (fun _ => 0) [0] (by decide) rfl dL_addClip_28

set_option maxHeartbeats 4000000 in
set_option maxRecDepth 100000 in
theorem c1531_X10_ofClip (l : Launch) (g : gG) (q1 q39 : Nat) (w3 w4 w5 w6 w7 w8 w9 w10 w11 w12 w13 w14 w15 w16 w17 w18 w19 w20 w21 w22 w23 w24 w25 w26 w27 w28 w29 w30 w31 w32 w33 w34 w35 w36 w37 w38 : Value) (f40 : Nat → Int32) (hf41 : f40 394 = 2) (sz : Nat) : Met l yX10_ofClip [Cond.code yX10_ofClip cX10_ofClip 3 (some .int)] ({ frames := 0, cells := 0, slots := 0, locals := 0 } : Room) (va_Pc [.ref q1, .int 0, .int 1] (PX g sz [(q39, .inl (g.2 0, 497, .inl f40)), (q1, .inr (12, [.ref q39, w3, w4, w5, w6, w7, w8, w9, w10, w11, w12, w13, w14, w15, w16, w17, w18, w19, w20, w21, w22, w23, w24, w25, w26, w27, w28, w29, w30, w31, w32, w33, w34, w35, w36, w37, w38]))])) (QI g [(q39, .inl (g.2 0, 497, .inl f40)), (q1, .inr (12, [.ref q39, w3, w4, w5, w6, w7, w8, w9, w10, w11, w12, w13, w14, w15, w16, w17, w18, w19, w20, w21, w22, w23, w24, w25, w26, w27, w28, w29, w30, w31, w32, w33, w34, w35, w36, w37, w38]))] sz 2 (fun _ => [(q39, .inl (g.2 0, 497, .inl f40)), (q1, .inr (12, [.ref q39, w3, w4, w5, w6, w7, w8, w9, w10, w11, w12, w13, w14, w15, w16, w17, w18, w19, w20, w21, w22, w23, w24, w25, w26, w27, w28, w29, w30, w31, w32, w33, w34, w35, w36, w37, w38]))])) 0 0 (va_A [(q39, .inl (g.2 0, 497, .inl f40)), (q1, .inr (12, [.ref q39, w3, w4, w5, w6, w7, w8, w9, w10, w11, w12, w13, w14, w15, w16, w17, w18, w19, w20, w21, w22, w23, w24, w25, w26, w27, w28, w29, w30, w31, w32, w33, w34, w35, w36, w37, w38]))] sz) := by
  refine ofN (by decide) (Nat.le_of_ble_eq_true rfl) rfl ?_
  intro p e s m args below meth c A ls hAe hsz hx hb hml hr hlocks hin hown hE hP hD hA hS hl
  have hown : s.vm.findClass RX10 = some m.cls := hown
  refine lv_aload_n hx hb dX10_ofClip_0 rfl (lv_at hl 0 rfl) ?_
  refine gf_RX10_9 hx hb hown hE hP 1 rfl rfl dX10_ofClip_1 ?_
  refine lv_sipush (v := 393) hx hb dX10_ofClip_4 (by decide) ?_
  refine lv_iconst (v := 5) hx hb dX10_ofClip_7 (by decide) ?_
  refine lv_iload_n hx hb dX10_ofClip_8 rfl (lv_at hl 1 rfl) ?_
  refine x_imul (v := 0) hx hb dX10_ofClip_9 (by decide) ?_
  refine x_iadd (v := 393) hx hb dX10_ofClip_10 (by decide) ?_
  refine lv_iload_n hx hb dX10_ofClip_11 rfl (lv_at hl 2 rfl) ?_
  refine x_iadd (v := 394) hx hb dX10_ofClip_12 (by decide) ?_
  refine x_iald (v := 2) hx hb hE hP 0 rfl 394 (x_in (by decide)) (by decide) hf41 dX10_ofClip_13 ?_
  exact x_zret hx hb hr rfl rfl hlocks hP hD hS hAe hsz (Nat.le_of_ble_eq_true rfl) (Nat.le_of_ble_eq_true rfl) (fun _ => 0) [0, 1] (by decide) rfl dX10_ofClip_14

set_option maxHeartbeats 4000000 in
set_option maxRecDepth 100000 in
theorem c1532_X10_isTooGreat (l : Launch) (g : gG) (q1 q39 q40 q41 : Nat) (x62 : Int32) (w3 w4 w5 w6 w7 w8 w11 w12 w13 w14 w15 w16 w17 w18 w19 w20 w21 w22 w23 w24 w25 w26 w27 w28 w29 w30 w31 w32 w33 w34 w35 w36 w37 w38 : Value) (f42 : Nat → Int32) (f51 : Nat → Int32) (hf43 : f42 0 = 0) (hf44 : f42 49 = 0) (hf45 : f42 98 = 0) (hf46 : f42 147 = 0) (hf47 : f42 196 = 0) (hf48 : f42 245 = 0) (hf49 : f42 294 = 0) (hf50 : f42 343 = 0) (hf52 : f51 0 = 0) (hf53 : f51 1 = 0) (hf54 : f51 2 = 0) (hf55 : f51 3 = 0) (hf56 : f51 4 = 0) (hf57 : f51 5 = 0) (hf58 : f51 6 = 0) (hf59 : f51 7 = 0) (hf60 : f42 392 = 1) (hf61 : f42 395 = x62) (hf63 : f42 394 = 2) (sz : Nat) : Met l yX10_isTooGreat [Cond.code yX10_isTooGreat cX10_isTooGreat 4 (some .boolean)] ({ frames := 3, cells := 0, slots := 0, locals := 66 } : Room) (va_Pc [.ref q1] (PX g sz [(q41, .inl (g.2 0, 8, .inl f51)), (q40, .inl (g.2 0, 8, .inl f51)), (q39, .inl (g.2 0, 497, .inl f42)), (q1, .inr (12, [.ref q39, w3, w4, w5, w6, w7, w8, .ref q40, .ref q41, w11, w12, w13, w14, w15, w16, w17, w18, w19, w20, w21, w22, w23, w24, w25, w26, w27, w28, w29, w30, w31, w32, w33, w34, w35, w36, w37, w38]))])) (QI g [(q41, .inl (g.2 0, 8, .inl f51)), (q40, .inl (g.2 0, 8, .inl f51)), (q39, .inl (g.2 0, 497, .inl f42)), (q1, .inr (12, [.ref q39, w3, w4, w5, w6, w7, w8, .ref q40, .ref q41, w11, w12, w13, w14, w15, w16, w17, w18, w19, w20, w21, w22, w23, w24, w25, w26, w27, w28, w29, w30, w31, w32, w33, w34, w35, w36, w37, w38]))] sz 0 (fun _ => [(q41, .inl (g.2 0, 8, .inl f51)), (q40, .inl (g.2 0, 8, .inl f51)), (q39, .inl (g.2 0, 497, .inl f42)), (q1, .inr (12, [.ref q39, w3, w4, w5, w6, w7, w8, .ref q40, .ref q41, w11, w12, w13, w14, w15, w16, w17, w18, w19, w20, w21, w22, w23, w24, w25, w26, w27, w28, w29, w30, w31, w32, w33, w34, w35, w36, w37, w38]))])) 0 0 (va_A [(q41, .inl (g.2 0, 8, .inl f51)), (q40, .inl (g.2 0, 8, .inl f51)), (q39, .inl (g.2 0, 497, .inl f42)), (q1, .inr (12, [.ref q39, w3, w4, w5, w6, w7, w8, .ref q40, .ref q41, w11, w12, w13, w14, w15, w16, w17, w18, w19, w20, w21, w22, w23, w24, w25, w26, w27, w28, w29, w30, w31, w32, w33, w34, w35, w36, w37, w38]))] sz) := by
  refine ofN (by decide) (Nat.le_of_ble_eq_true rfl) rfl ?_
  intro p e s m args below meth c A ls hAe hsz hx hb hml hr hlocks hin hown hE hP hD hA hS hl
  have hown : s.vm.findClass RX10 = some m.cls := hown
  refine lv_aload_n hx hb dX10_isTooGreat_0 rfl (lv_at hl 0 rfl) ?_
  refine g_v (wr := []) (rV (rest := []) hx hb hml hown hE hP hD 3 rfl rfl (c1241_X10_layLengths l g q1 q39 q40 q41 w3 w4 w5 w6 w7 w8 w11 w12 w13 w14 w15 w16 w17 w18 w19 w20 w21 w22 w23 w24 w25 w26 w27 w28 w29 w30 w31 w32 w33 w34 w35 w36 w37 w38 f42 f51 (hf43) (hf52) (hf44) (hf53) (hf45) (hf54) (hf46) (hf55) (hf47) (hf56) (hf48) (hf57) (hf49) (hf58) (hf50) (hf59) s.heap.size) (kV_X10_layLengths hE (e1452 hE) rfl rfl ⟨(Nat.le_of_ble_eq_true rfl), (Nat.le_of_ble_eq_true rfl)⟩) [0, 1, 2, 3] rfl (by decide) rfl hl.1 rfl (lv_room (Nat.le_of_ble_eq_true rfl)) dX10_isTooGreat_1 ⟨(Nat.le_of_ble_eq_true rfl), (Nat.le_of_ble_eq_true rfl)⟩) hP hD hS hA [0, 1, 2, 3] [] rfl rfl (by decide) (by decide) (fun u1 H locs hP hD hS => ?_)
  have hP : va_P g.1 vwCl [(q41, .inl (g.2 0, 8, .inl f51)), (q40, .inl (g.2 0, 8, .inl f51)), (q39, .inl (g.2 0, 497, .inl f42)), (q1, .inr (12, [.ref q39, w3, w4, w5, w6, w7, w8, .ref q40, .ref q41, w11, w12, w13, w14, w15, w16, w17, w18, w19, w20, w21, w22, w23, w24, w25, w26, w27, w28, w29, w30, w31, w32, w33, w34, w35, w36, w37, w38]))] H := hP
  have hD : va_D A [(q41, .inl (g.2 0, 8, .inl f51)), (q40, .inl (g.2 0, 8, .inl f51)), (q39, .inl (g.2 0, 497, .inl f42)), (q1, .inr (12, [.ref q39, w3, w4, w5, w6, w7, w8, .ref q40, .ref q41, w11, w12, w13, w14, w15, w16, w17, w18, w19, w20, w21, w22, w23, w24, w25, w26, w27, w28, w29, w30, w31, w32, w33, w34, w35, w36, w37, w38]))] := hD
  refine lv_iconst (v := 0) hx hb dX10_isTooGreat_4 (by decide) ?_
  refine lv_istore_n (lv' := [(1, .int 0), (0, .ref q1)]) hx hb dX10_isTooGreat_5 rfl hl (by decide) rfl (fun ls hl => ?_)
  refine lv_iconst (v := 0) hx hb dX10_isTooGreat_6 (by decide) ?_
  refine lv_istore_n (lv' := [(2, .int 0), (1, .int 0), (0, .ref q1)]) hx hb dX10_isTooGreat_7 rfl hl (by decide) rfl (fun ls hl => ?_)
  refine lv_iload_n hx hb dX10_isTooGreat_8 rfl (lv_at hl 0 rfl) ?_
  refine lv_bipush (v := 8) hx hb dX10_isTooGreat_9 (by decide) ?_
  refine lv_icmp_ge (tgt := 40) hx hb dX10_isTooGreat_11 (by decide) (fun h => absurd h (by decide)) (fun _ => ?_)
  refine lv_iload_n hx hb dX10_isTooGreat_14 rfl (lv_at hl 1 rfl) ?_
  refine lv_aload_n hx hb dX10_isTooGreat_15 rfl (lv_at hl 2 rfl) ?_
  refine gf_RX10_22 hx hb hown hE hP 3 rfl rfl dX10_isTooGreat_16 ?_
  refine lv_iload_n hx hb dX10_isTooGreat_19 rfl (lv_at hl 0 rfl) ?_
  refine x_iald (v := 0) hx hb hE hP 1 rfl 0 (x_in (by decide)) (by decide) hf52 dX10_isTooGreat_20 ?_
  refine lv_sipush (v := 20000) hx hb dX10_isTooGreat_21 (by decide) ?_
  refine lv_icmp_le (tgt := 31) hx hb dX10_isTooGreat_24 (by decide) (fun _ => ?_) (fun h => absurd (by decide) h)
  refine lv_iconst (v := 0) hx hb dX10_isTooGreat_31 (by decide) ?_
  refine x_ior (v := 0) hx hb dX10_isTooGreat_32 (by decide) ?_
  refine lv_istore_n (lv' := [(1, .int 0), (2, .int 0), (0, .ref q1)]) hx hb dX10_isTooGreat_33 rfl hl (by decide) rfl (fun ls hl => ?_)
  refine lv_iinc (v := 1) (lv' := [(2, .int 1), (1, .int 0), (0, .ref q1)]) hx hb dX10_isTooGreat_34 hl (k := 1) rfl (by decide) (by decide) rfl (fun ls hl => ?_)
  refine lv_goto (tgt := 8) hx hb dX10_isTooGreat_37 (by decide) ?_
  refine lv_iload_n hx hb dX10_isTooGreat_8 rfl (lv_at hl 0 rfl) ?_
  refine lv_bipush (v := 8) hx hb dX10_isTooGreat_9 (by decide) ?_
  refine lv_icmp_ge (tgt := 40) hx hb dX10_isTooGreat_11 (by decide) (fun h => absurd h (by decide)) (fun _ => ?_)
  refine lv_iload_n hx hb dX10_isTooGreat_14 rfl (lv_at hl 1 rfl) ?_
  refine lv_aload_n hx hb dX10_isTooGreat_15 rfl (lv_at hl 2 rfl) ?_
  refine gf_RX10_22 hx hb hown hE hP 3 rfl rfl dX10_isTooGreat_16 ?_
  refine lv_iload_n hx hb dX10_isTooGreat_19 rfl (lv_at hl 0 rfl) ?_
  refine x_iald (v := 0) hx hb hE hP 1 rfl 1 (x_in (by decide)) (by decide) hf53 dX10_isTooGreat_20 ?_
  refine lv_sipush (v := 20000) hx hb dX10_isTooGreat_21 (by decide) ?_
  refine lv_icmp_le (tgt := 31) hx hb dX10_isTooGreat_24 (by decide) (fun _ => ?_) (fun h => absurd (by decide) h)
  refine lv_iconst (v := 0) hx hb dX10_isTooGreat_31 (by decide) ?_
  refine x_ior (v := 0) hx hb dX10_isTooGreat_32 (by decide) ?_
  refine lv_istore_n (lv' := [(1, .int 0), (2, .int 1), (0, .ref q1)]) hx hb dX10_isTooGreat_33 rfl hl (by decide) rfl (fun ls hl => ?_)
  refine lv_iinc (v := 2) (lv' := [(2, .int 2), (1, .int 0), (0, .ref q1)]) hx hb dX10_isTooGreat_34 hl (k := 1) rfl (by decide) (by decide) rfl (fun ls hl => ?_)
  refine lv_goto (tgt := 8) hx hb dX10_isTooGreat_37 (by decide) ?_
  refine lv_iload_n hx hb dX10_isTooGreat_8 rfl (lv_at hl 0 rfl) ?_
  refine lv_bipush (v := 8) hx hb dX10_isTooGreat_9 (by decide) ?_
  refine lv_icmp_ge (tgt := 40) hx hb dX10_isTooGreat_11 (by decide) (fun h => absurd h (by decide)) (fun _ => ?_)
  refine lv_iload_n hx hb dX10_isTooGreat_14 rfl (lv_at hl 1 rfl) ?_
  refine lv_aload_n hx hb dX10_isTooGreat_15 rfl (lv_at hl 2 rfl) ?_
  refine gf_RX10_22 hx hb hown hE hP 3 rfl rfl dX10_isTooGreat_16 ?_
  refine lv_iload_n hx hb dX10_isTooGreat_19 rfl (lv_at hl 0 rfl) ?_
  refine x_iald (v := 0) hx hb hE hP 1 rfl 2 (x_in (by decide)) (by decide) hf54 dX10_isTooGreat_20 ?_
  refine lv_sipush (v := 20000) hx hb dX10_isTooGreat_21 (by decide) ?_
  refine lv_icmp_le (tgt := 31) hx hb dX10_isTooGreat_24 (by decide) (fun _ => ?_) (fun h => absurd (by decide) h)
  refine lv_iconst (v := 0) hx hb dX10_isTooGreat_31 (by decide) ?_
  refine x_ior (v := 0) hx hb dX10_isTooGreat_32 (by decide) ?_
  refine lv_istore_n (lv' := [(1, .int 0), (2, .int 2), (0, .ref q1)]) hx hb dX10_isTooGreat_33 rfl hl (by decide) rfl (fun ls hl => ?_)
  refine lv_iinc (v := 3) (lv' := [(2, .int 3), (1, .int 0), (0, .ref q1)]) hx hb dX10_isTooGreat_34 hl (k := 1) rfl (by decide) (by decide) rfl (fun ls hl => ?_)
  refine lv_goto (tgt := 8) hx hb dX10_isTooGreat_37 (by decide) ?_
  refine lv_iload_n hx hb dX10_isTooGreat_8 rfl (lv_at hl 0 rfl) ?_
  refine lv_bipush (v := 8) hx hb dX10_isTooGreat_9 (by decide) ?_
  refine lv_icmp_ge (tgt := 40) hx hb dX10_isTooGreat_11 (by decide) (fun h => absurd h (by decide)) (fun _ => ?_)
  refine lv_iload_n hx hb dX10_isTooGreat_14 rfl (lv_at hl 1 rfl) ?_
  refine lv_aload_n hx hb dX10_isTooGreat_15 rfl (lv_at hl 2 rfl) ?_
  refine gf_RX10_22 hx hb hown hE hP 3 rfl rfl dX10_isTooGreat_16 ?_
  refine lv_iload_n hx hb dX10_isTooGreat_19 rfl (lv_at hl 0 rfl) ?_
  refine x_iald (v := 0) hx hb hE hP 1 rfl 3 (x_in (by decide)) (by decide) hf55 dX10_isTooGreat_20 ?_
  refine lv_sipush (v := 20000) hx hb dX10_isTooGreat_21 (by decide) ?_
  refine lv_icmp_le (tgt := 31) hx hb dX10_isTooGreat_24 (by decide) (fun _ => ?_) (fun h => absurd (by decide) h)
  refine lv_iconst (v := 0) hx hb dX10_isTooGreat_31 (by decide) ?_
  refine x_ior (v := 0) hx hb dX10_isTooGreat_32 (by decide) ?_
  refine lv_istore_n (lv' := [(1, .int 0), (2, .int 3), (0, .ref q1)]) hx hb dX10_isTooGreat_33 rfl hl (by decide) rfl (fun ls hl => ?_)
  refine lv_iinc (v := 4) (lv' := [(2, .int 4), (1, .int 0), (0, .ref q1)]) hx hb dX10_isTooGreat_34 hl (k := 1) rfl (by decide) (by decide) rfl (fun ls hl => ?_)
  refine lv_goto (tgt := 8) hx hb dX10_isTooGreat_37 (by decide) ?_
  refine lv_iload_n hx hb dX10_isTooGreat_8 rfl (lv_at hl 0 rfl) ?_
  refine lv_bipush (v := 8) hx hb dX10_isTooGreat_9 (by decide) ?_
  refine lv_icmp_ge (tgt := 40) hx hb dX10_isTooGreat_11 (by decide) (fun h => absurd h (by decide)) (fun _ => ?_)
  refine lv_iload_n hx hb dX10_isTooGreat_14 rfl (lv_at hl 1 rfl) ?_
  refine lv_aload_n hx hb dX10_isTooGreat_15 rfl (lv_at hl 2 rfl) ?_
  refine gf_RX10_22 hx hb hown hE hP 3 rfl rfl dX10_isTooGreat_16 ?_
  refine lv_iload_n hx hb dX10_isTooGreat_19 rfl (lv_at hl 0 rfl) ?_
  refine x_iald (v := 0) hx hb hE hP 1 rfl 4 (x_in (by decide)) (by decide) hf56 dX10_isTooGreat_20 ?_
  refine lv_sipush (v := 20000) hx hb dX10_isTooGreat_21 (by decide) ?_
  refine lv_icmp_le (tgt := 31) hx hb dX10_isTooGreat_24 (by decide) (fun _ => ?_) (fun h => absurd (by decide) h)
  refine lv_iconst (v := 0) hx hb dX10_isTooGreat_31 (by decide) ?_
  refine x_ior (v := 0) hx hb dX10_isTooGreat_32 (by decide) ?_
  refine lv_istore_n (lv' := [(1, .int 0), (2, .int 4), (0, .ref q1)]) hx hb dX10_isTooGreat_33 rfl hl (by decide) rfl (fun ls hl => ?_)
  refine lv_iinc (v := 5) (lv' := [(2, .int 5), (1, .int 0), (0, .ref q1)]) hx hb dX10_isTooGreat_34 hl (k := 1) rfl (by decide) (by decide) rfl (fun ls hl => ?_)
  refine lv_goto (tgt := 8) hx hb dX10_isTooGreat_37 (by decide) ?_
  refine lv_iload_n hx hb dX10_isTooGreat_8 rfl (lv_at hl 0 rfl) ?_
  refine lv_bipush (v := 8) hx hb dX10_isTooGreat_9 (by decide) ?_
  refine lv_icmp_ge (tgt := 40) hx hb dX10_isTooGreat_11 (by decide) (fun h => absurd h (by decide)) (fun _ => ?_)
  refine lv_iload_n hx hb dX10_isTooGreat_14 rfl (lv_at hl 1 rfl) ?_
  refine lv_aload_n hx hb dX10_isTooGreat_15 rfl (lv_at hl 2 rfl) ?_
  refine gf_RX10_22 hx hb hown hE hP 3 rfl rfl dX10_isTooGreat_16 ?_
  refine lv_iload_n hx hb dX10_isTooGreat_19 rfl (lv_at hl 0 rfl) ?_
  refine x_iald (v := 0) hx hb hE hP 1 rfl 5 (x_in (by decide)) (by decide) hf57 dX10_isTooGreat_20 ?_
  refine lv_sipush (v := 20000) hx hb dX10_isTooGreat_21 (by decide) ?_
  refine lv_icmp_le (tgt := 31) hx hb dX10_isTooGreat_24 (by decide) (fun _ => ?_) (fun h => absurd (by decide) h)
  refine lv_iconst (v := 0) hx hb dX10_isTooGreat_31 (by decide) ?_
  refine x_ior (v := 0) hx hb dX10_isTooGreat_32 (by decide) ?_
  refine lv_istore_n (lv' := [(1, .int 0), (2, .int 5), (0, .ref q1)]) hx hb dX10_isTooGreat_33 rfl hl (by decide) rfl (fun ls hl => ?_)
  refine lv_iinc (v := 6) (lv' := [(2, .int 6), (1, .int 0), (0, .ref q1)]) hx hb dX10_isTooGreat_34 hl (k := 1) rfl (by decide) (by decide) rfl (fun ls hl => ?_)
  refine lv_goto (tgt := 8) hx hb dX10_isTooGreat_37 (by decide) ?_
  refine lv_iload_n hx hb dX10_isTooGreat_8 rfl (lv_at hl 0 rfl) ?_
  refine lv_bipush (v := 8) hx hb dX10_isTooGreat_9 (by decide) ?_
  refine lv_icmp_ge (tgt := 40) hx hb dX10_isTooGreat_11 (by decide) (fun h => absurd h (by decide)) (fun _ => ?_)
  refine lv_iload_n hx hb dX10_isTooGreat_14 rfl (lv_at hl 1 rfl) ?_
  refine lv_aload_n hx hb dX10_isTooGreat_15 rfl (lv_at hl 2 rfl) ?_
  refine gf_RX10_22 hx hb hown hE hP 3 rfl rfl dX10_isTooGreat_16 ?_
  refine lv_iload_n hx hb dX10_isTooGreat_19 rfl (lv_at hl 0 rfl) ?_
  refine x_iald (v := 0) hx hb hE hP 1 rfl 6 (x_in (by decide)) (by decide) hf58 dX10_isTooGreat_20 ?_
  refine lv_sipush (v := 20000) hx hb dX10_isTooGreat_21 (by decide) ?_
  refine lv_icmp_le (tgt := 31) hx hb dX10_isTooGreat_24 (by decide) (fun _ => ?_) (fun h => absurd (by decide) h)
  refine lv_iconst (v := 0) hx hb dX10_isTooGreat_31 (by decide) ?_
  refine x_ior (v := 0) hx hb dX10_isTooGreat_32 (by decide) ?_
  refine lv_istore_n (lv' := [(1, .int 0), (2, .int 6), (0, .ref q1)]) hx hb dX10_isTooGreat_33 rfl hl (by decide) rfl (fun ls hl => ?_)
  refine lv_iinc (v := 7) (lv' := [(2, .int 7), (1, .int 0), (0, .ref q1)]) hx hb dX10_isTooGreat_34 hl (k := 1) rfl (by decide) (by decide) rfl (fun ls hl => ?_)
  refine lv_goto (tgt := 8) hx hb dX10_isTooGreat_37 (by decide) ?_
  refine lv_iload_n hx hb dX10_isTooGreat_8 rfl (lv_at hl 0 rfl) ?_
  refine lv_bipush (v := 8) hx hb dX10_isTooGreat_9 (by decide) ?_
  refine lv_icmp_ge (tgt := 40) hx hb dX10_isTooGreat_11 (by decide) (fun h => absurd h (by decide)) (fun _ => ?_)
  refine lv_iload_n hx hb dX10_isTooGreat_14 rfl (lv_at hl 1 rfl) ?_
  refine lv_aload_n hx hb dX10_isTooGreat_15 rfl (lv_at hl 2 rfl) ?_
  refine gf_RX10_22 hx hb hown hE hP 3 rfl rfl dX10_isTooGreat_16 ?_
  refine lv_iload_n hx hb dX10_isTooGreat_19 rfl (lv_at hl 0 rfl) ?_
  refine x_iald (v := 0) hx hb hE hP 1 rfl 7 (x_in (by decide)) (by decide) hf59 dX10_isTooGreat_20 ?_
  refine lv_sipush (v := 20000) hx hb dX10_isTooGreat_21 (by decide) ?_
  refine lv_icmp_le (tgt := 31) hx hb dX10_isTooGreat_24 (by decide) (fun _ => ?_) (fun h => absurd (by decide) h)
  refine lv_iconst (v := 0) hx hb dX10_isTooGreat_31 (by decide) ?_
  refine x_ior (v := 0) hx hb dX10_isTooGreat_32 (by decide) ?_
  refine lv_istore_n (lv' := [(1, .int 0), (2, .int 7), (0, .ref q1)]) hx hb dX10_isTooGreat_33 rfl hl (by decide) rfl (fun ls hl => ?_)
  refine lv_iinc (v := 8) (lv' := [(2, .int 8), (1, .int 0), (0, .ref q1)]) hx hb dX10_isTooGreat_34 hl (k := 1) rfl (by decide) (by decide) rfl (fun ls hl => ?_)
  refine lv_goto (tgt := 8) hx hb dX10_isTooGreat_37 (by decide) ?_
  refine lv_iload_n hx hb dX10_isTooGreat_8 rfl (lv_at hl 0 rfl) ?_
  refine lv_bipush (v := 8) hx hb dX10_isTooGreat_9 (by decide) ?_
  refine lv_icmp_ge (tgt := 40) hx hb dX10_isTooGreat_11 (by decide) (fun _ => ?_) (fun h => absurd (by decide) h)
  refine lv_iconst (v := 0) hx hb dX10_isTooGreat_40 (by decide) ?_
  refine lv_istore_n (lv' := [(2, .int 0), (1, .int 0), (0, .ref q1)]) hx hb dX10_isTooGreat_41 rfl hl (by decide) rfl (fun ls hl => ?_)
  refine lv_iconst (v := 0) hx hb dX10_isTooGreat_42 (by decide) ?_
  refine lv_istore_n (lv' := [(3, .int 0), (2, .int 0), (1, .int 0), (0, .ref q1)]) hx hb dX10_isTooGreat_43 rfl hl (by decide) rfl (fun ls hl => ?_)
  refine lv_iload_n hx hb dX10_isTooGreat_44 rfl (lv_at hl 0 rfl) ?_
  refine lv_aload_n hx hb dX10_isTooGreat_45 rfl (lv_at hl 3 rfl) ?_
  refine gf_RX10_9 hx hb hown hE hP 3 rfl rfl dX10_isTooGreat_46 ?_
  refine lv_sipush (v := 392) hx hb dX10_isTooGreat_49 (by decide) ?_
  refine x_iald (v := 1) hx hb hE hP 2 rfl 392 (x_in (by decide)) (by decide) hf60 dX10_isTooGreat_52 ?_
  refine lv_icmp_ge (tgt := 115) hx hb dX10_isTooGreat_53 (by decide) (fun h => absurd h (by decide)) (fun _ => ?_)
  refine lv_iload_n hx hb dX10_isTooGreat_56 rfl (lv_at hl 2 rfl) ?_
  refine lv_aload_n hx hb dX10_isTooGreat_57 rfl (lv_at hl 3 rfl) ?_
  refine lv_iload_n hx hb dX10_isTooGreat_58 rfl (lv_at hl 0 rfl) ?_
  refine lv_iconst (v := 2) hx hb dX10_isTooGreat_59 (by decide) ?_
  refine g_i (wr := [(q41, .inl (g.2 0, 8, .inl f51)), (q40, .inl (g.2 0, 8, .inl f51))]) (rV (rest := [.int 0]) hx hb hml hown hE hP hD 3 rfl rfl (c1512_X10_ofClip l g q1 q39 x62 w3 w4 w5 w6 w7 w8 (.ref q40) (.ref q41) w11 w12 w13 w14 w15 w16 w17 w18 w19 w20 w21 w22 w23 w24 w25 w26 w27 w28 w29 w30 w31 w32 w33 w34 w35 w36 w37 w38 f42 (hf61) H.size) (kV_X10_ofClip hE (e1466 hE) rfl rfl ⟨(Nat.le_of_ble_eq_true rfl), (Nat.le_of_ble_eq_true rfl)⟩) [2, 3] rfl (by decide) rfl hl.1 rfl (lv_room (Nat.le_of_ble_eq_true rfl)) dX10_isTooGreat_60 ⟨(Nat.le_of_ble_eq_true rfl), (Nat.le_of_ble_eq_true rfl)⟩) hP hD hS hA [2, 3] [0, 1] rfl rfl (by decide) (by decide) (fun u2 H locs hP hD hS => ?_)
  have hP : va_P g.1 vwCl [(q41, .inl (g.2 0, 8, .inl f51)), (q40, .inl (g.2 0, 8, .inl f51)), (q39, .inl (g.2 0, 497, .inl f42)), (q1, .inr (12, [.ref q39, w3, w4, w5, w6, w7, w8, .ref q40, .ref q41, w11, w12, w13, w14, w15, w16, w17, w18, w19, w20, w21, w22, w23, w24, w25, w26, w27, w28, w29, w30, w31, w32, w33, w34, w35, w36, w37, w38]))] H := hP
  have hD : va_D A [(q41, .inl (g.2 0, 8, .inl f51)), (q40, .inl (g.2 0, 8, .inl f51)), (q39, .inl (g.2 0, 497, .inl f42)), (q1, .inr (12, [.ref q39, w3, w4, w5, w6, w7, w8, .ref q40, .ref q41, w11, w12, w13, w14, w15, w16, w17, w18, w19, w20, w21, w22, w23, w24, w25, w26, w27, w28, w29, w30, w31, w32, w33, w34, w35, w36, w37, w38]))] := hD
  refine lv_aload_n hx hb dX10_isTooGreat_63 rfl (lv_at hl 3 rfl) ?_
  refine gf_RX10_22 hx hb hown hE hP 3 rfl rfl dX10_isTooGreat_64 ?_
  refine lv_aload_n hx hb dX10_isTooGreat_67 rfl (lv_at hl 3 rfl) ?_
  refine lv_iload_n hx hb dX10_isTooGreat_68 rfl (lv_at hl 0 rfl) ?_
  refine lv_iconst (v := 1) hx hb dX10_isTooGreat_69 (by decide) ?_
  refine g_i (wr := [(q41, .inl (g.2 0, 8, .inl f51)), (q40, .inl (g.2 0, 8, .inl f51))]) (rV (rest := [.ref q40, .int x62, .int 0]) hx hb hml hown hE hP hD 3 rfl rfl (c1531_X10_ofClip l g q1 q39 w3 w4 w5 w6 w7 w8 (.ref q40) (.ref q41) w11 w12 w13 w14 w15 w16 w17 w18 w19 w20 w21 w22 w23 w24 w25 w26 w27 w28 w29 w30 w31 w32 w33 w34 w35 w36 w37 w38 f42 (hf63) H.size) (kV_X10_ofClip hE (e1466 hE) rfl rfl ⟨(Nat.le_of_ble_eq_true rfl), (Nat.le_of_ble_eq_true rfl)⟩) [2, 3] rfl (by decide) rfl hl.1 rfl (lv_room (Nat.le_of_ble_eq_true rfl)) dX10_isTooGreat_70 ⟨(Nat.le_of_ble_eq_true rfl), (Nat.le_of_ble_eq_true rfl)⟩) hP hD hS hA [2, 3] [0, 1] rfl rfl (by decide) (by decide) (fun u3 H locs hP hD hS => ?_)
  have hP : va_P g.1 vwCl [(q41, .inl (g.2 0, 8, .inl f51)), (q40, .inl (g.2 0, 8, .inl f51)), (q39, .inl (g.2 0, 497, .inl f42)), (q1, .inr (12, [.ref q39, w3, w4, w5, w6, w7, w8, .ref q40, .ref q41, w11, w12, w13, w14, w15, w16, w17, w18, w19, w20, w21, w22, w23, w24, w25, w26, w27, w28, w29, w30, w31, w32, w33, w34, w35, w36, w37, w38]))] H := hP
  have hD : va_D A [(q41, .inl (g.2 0, 8, .inl f51)), (q40, .inl (g.2 0, 8, .inl f51)), (q39, .inl (g.2 0, 497, .inl f42)), (q1, .inr (12, [.ref q39, w3, w4, w5, w6, w7, w8, .ref q40, .ref q41, w11, w12, w13, w14, w15, w16, w17, w18, w19, w20, w21, w22, w23, w24, w25, w26, w27, w28, w29, w30, w31, w32, w33, w34, w35, w36, w37, w38]))] := hD
  refine x_iald (v := 0) hx hb hE hP 1 rfl 2 (x_in (by decide)) (by decide) hf54 dX10_isTooGreat_73 ?_
  refine x_imul (v := 0) hx hb dX10_isTooGreat_74 (Int32.mul_zero) ?_
  refine lv_sipush (v := 20000) hx hb dX10_isTooGreat_75 (by decide) ?_
  refine lv_icmp_le (tgt := 85) hx hb dX10_isTooGreat_78 (by decide) (fun _ => ?_) (fun h => absurd (by decide) h)
  refine lv_iconst (v := 0) hx hb dX10_isTooGreat_85 (by decide) ?_
  refine x_ior (v := 0) hx hb dX10_isTooGreat_86 (by decide) ?_
  refine lv_istore_n (lv' := [(1, .int 0), (3, .int 0), (2, .int 0), (0, .ref q1)]) hx hb dX10_isTooGreat_87 rfl hl (by decide) rfl (fun ls hl => ?_)
  refine lv_iload_n hx hb dX10_isTooGreat_88 rfl (lv_at hl 2 rfl) ?_
  refine lv_aload_n hx hb dX10_isTooGreat_89 rfl (lv_at hl 3 rfl) ?_
  refine lv_iload_n hx hb dX10_isTooGreat_90 rfl (lv_at hl 1 rfl) ?_
  refine lv_iconst (v := 2) hx hb dX10_isTooGreat_91 (by decide) ?_
  refine g_i (wr := [(q41, .inl (g.2 0, 8, .inl f51)), (q40, .inl (g.2 0, 8, .inl f51))]) (rV (rest := [.int 0]) hx hb hml hown hE hP hD 3 rfl rfl (c1512_X10_ofClip l g q1 q39 x62 w3 w4 w5 w6 w7 w8 (.ref q40) (.ref q41) w11 w12 w13 w14 w15 w16 w17 w18 w19 w20 w21 w22 w23 w24 w25 w26 w27 w28 w29 w30 w31 w32 w33 w34 w35 w36 w37 w38 f42 (hf61) H.size) (kV_X10_ofClip hE (e1466 hE) rfl rfl ⟨(Nat.le_of_ble_eq_true rfl), (Nat.le_of_ble_eq_true rfl)⟩) [2, 3] rfl (by decide) rfl hl.1 rfl (lv_room (Nat.le_of_ble_eq_true rfl)) dX10_isTooGreat_92 ⟨(Nat.le_of_ble_eq_true rfl), (Nat.le_of_ble_eq_true rfl)⟩) hP hD hS hA [2, 3] [0, 1] rfl rfl (by decide) (by decide) (fun u4 H locs hP hD hS => ?_)
  have hP : va_P g.1 vwCl [(q41, .inl (g.2 0, 8, .inl f51)), (q40, .inl (g.2 0, 8, .inl f51)), (q39, .inl (g.2 0, 497, .inl f42)), (q1, .inr (12, [.ref q39, w3, w4, w5, w6, w7, w8, .ref q40, .ref q41, w11, w12, w13, w14, w15, w16, w17, w18, w19, w20, w21, w22, w23, w24, w25, w26, w27, w28, w29, w30, w31, w32, w33, w34, w35, w36, w37, w38]))] H := hP
  have hD : va_D A [(q41, .inl (g.2 0, 8, .inl f51)), (q40, .inl (g.2 0, 8, .inl f51)), (q39, .inl (g.2 0, 497, .inl f42)), (q1, .inr (12, [.ref q39, w3, w4, w5, w6, w7, w8, .ref q40, .ref q41, w11, w12, w13, w14, w15, w16, w17, w18, w19, w20, w21, w22, w23, w24, w25, w26, w27, w28, w29, w30, w31, w32, w33, w34, w35, w36, w37, w38]))] := hD
  refine lv_aload_n hx hb dX10_isTooGreat_95 rfl (lv_at hl 3 rfl) ?_
  refine gf_RX10_25 hx hb hown hE hP 3 rfl rfl dX10_isTooGreat_96 ?_
  refine lv_aload_n hx hb dX10_isTooGreat_99 rfl (lv_at hl 3 rfl) ?_
  refine lv_iload_n hx hb dX10_isTooGreat_100 rfl (lv_at hl 1 rfl) ?_
  refine lv_iconst (v := 1) hx hb dX10_isTooGreat_101 (by decide) ?_
  refine g_i (wr := [(q41, .inl (g.2 0, 8, .inl f51)), (q40, .inl (g.2 0, 8, .inl f51))]) (rV (rest := [.ref q41, .int x62, .int 0]) hx hb hml hown hE hP hD 3 rfl rfl (c1531_X10_ofClip l g q1 q39 w3 w4 w5 w6 w7 w8 (.ref q40) (.ref q41) w11 w12 w13 w14 w15 w16 w17 w18 w19 w20 w21 w22 w23 w24 w25 w26 w27 w28 w29 w30 w31 w32 w33 w34 w35 w36 w37 w38 f42 (hf63) H.size) (kV_X10_ofClip hE (e1466 hE) rfl rfl ⟨(Nat.le_of_ble_eq_true rfl), (Nat.le_of_ble_eq_true rfl)⟩) [2, 3] rfl (by decide) rfl hl.1 rfl (lv_room (Nat.le_of_ble_eq_true rfl)) dX10_isTooGreat_102 ⟨(Nat.le_of_ble_eq_true rfl), (Nat.le_of_ble_eq_true rfl)⟩) hP hD hS hA [2, 3] [0, 1] rfl rfl (by decide) (by decide) (fun u5 H locs hP hD hS => ?_)
  have hP : va_P g.1 vwCl [(q41, .inl (g.2 0, 8, .inl f51)), (q40, .inl (g.2 0, 8, .inl f51)), (q39, .inl (g.2 0, 497, .inl f42)), (q1, .inr (12, [.ref q39, w3, w4, w5, w6, w7, w8, .ref q40, .ref q41, w11, w12, w13, w14, w15, w16, w17, w18, w19, w20, w21, w22, w23, w24, w25, w26, w27, w28, w29, w30, w31, w32, w33, w34, w35, w36, w37, w38]))] H := hP
  have hD : va_D A [(q41, .inl (g.2 0, 8, .inl f51)), (q40, .inl (g.2 0, 8, .inl f51)), (q39, .inl (g.2 0, 497, .inl f42)), (q1, .inr (12, [.ref q39, w3, w4, w5, w6, w7, w8, .ref q40, .ref q41, w11, w12, w13, w14, w15, w16, w17, w18, w19, w20, w21, w22, w23, w24, w25, w26, w27, w28, w29, w30, w31, w32, w33, w34, w35, w36, w37, w38]))] := hD
  refine x_iald (v := 0) hx hb hE hP 0 rfl 2 (x_in (by decide)) (by decide) hf54 dX10_isTooGreat_105 ?_
  refine x_imul (v := 0) hx hb dX10_isTooGreat_106 (Int32.mul_zero) ?_
  refine x_iadd (v := 0) hx hb dX10_isTooGreat_107 (by decide) ?_
  refine lv_istore_n (lv' := [(2, .int 0), (1, .int 0), (3, .int 0), (0, .ref q1)]) hx hb dX10_isTooGreat_108 rfl hl (by decide) rfl (fun ls hl => ?_)
  refine lv_iinc (v := 1) (lv' := [(3, .int 1), (2, .int 0), (1, .int 0), (0, .ref q1)]) hx hb dX10_isTooGreat_109 hl (k := 2) rfl (by decide) (by decide) rfl (fun ls hl => ?_)
  refine lv_goto (tgt := 44) hx hb dX10_isTooGreat_112 (by decide) ?_
  refine lv_iload_n hx hb dX10_isTooGreat_44 rfl (lv_at hl 0 rfl) ?_
  refine lv_aload_n hx hb dX10_isTooGreat_45 rfl (lv_at hl 3 rfl) ?_
  refine gf_RX10_9 hx hb hown hE hP 3 rfl rfl dX10_isTooGreat_46 ?_
  refine lv_sipush (v := 392) hx hb dX10_isTooGreat_49 (by decide) ?_
  refine x_iald (v := 1) hx hb hE hP 2 rfl 392 (x_in (by decide)) (by decide) hf60 dX10_isTooGreat_52 ?_
  refine lv_icmp_ge (tgt := 115) hx hb dX10_isTooGreat_53 (by decide) (fun _ => ?_) (fun h => absurd (by decide) h)
  refine lv_iload_n hx hb dX10_isTooGreat_115 rfl (lv_at hl 2 rfl) ?_
  refine lv_if_ne (tgt := 126) hx hb dX10_isTooGreat_116 (by decide) (fun h => absurd h (by decide)) (fun _ => ?_)
  refine lv_iload_n hx hb dX10_isTooGreat_119 rfl (lv_at hl 1 rfl) ?_
  refine lv_sipush (v := 300) hx hb dX10_isTooGreat_120 (by decide) ?_
  refine lv_icmp_le (tgt := 130) hx hb dX10_isTooGreat_123 (by decide) (fun _ => ?_) (fun h => absurd (by decide) h)
  refine lv_iconst (v := 0) hx hb dX10_isTooGreat_130 (by decide) ?_
  exact x_zret hx hb hr rfl rfl hlocks hP hD hS hAe hsz (Nat.le_of_ble_eq_true rfl) (Nat.le_of_ble_eq_true rfl) (fun _ => 0) [0, 1, 2, 3] (by decide) rfl dX10_isTooGreat_131

set_option maxHeartbeats 4000000 in
set_option maxRecDepth 100000 in
theorem c1533_X10_addClip (l : Launch) (g : gG) (q1 q51 q54 q56 q57 q74 : Nat) (x2 x3 x4 x5 : Int32) (w7 w9 w12 w15 w16 w17 w18 w19 w20 w21 w22 w23 w24 w25 w26 w27 w28 w29 w30 w31 w32 w33 w34 w35 w36 w37 w38 w39 w40 w41 w42 : Value) (f52 : Nat → Int32) (f55 : Nat → Int32) (hf53 : f52 392 = 0) (hf58 : f52 0 = 0) (hf59 : f52 49 = 0) (hf60 : f52 98 = 0) (hf61 : f52 147 = 0) (hf62 : f52 196 = 0) (hf63 : f52 245 = 0) (hf64 : f52 294 = 0) (hf65 : f52 343 = 0) (hf66 : f55 0 = 0) (hf67 : f55 1 = 0) (hf68 : f55 2 = 0) (hf69 : f55 3 = 0) (hf70 : f55 4 = 0) (hf71 : f55 5 = 0) (hf72 : f55 6 = 0) (hf73 : f55 7 = 0) (h43 : (0 : Int32) ≤ x2) (h44 : x2 ≤ 9999) (h45 : (1 : Int32) ≤ x3) (h46 : x3 ≤ 9) (h47 : ((-50) : Int32) ≤ x4) (h48 : x4 ≤ 50) (h49 : (0 : Int32) ≤ x5) (h50 : x5 ≤ 3) (sz : Nat) : Met l yX10_addClip [Cond.code yX10_addClip cX10_addClip 8 (some .int)] ({ frames := 4, cells := 0, slots := 0, locals := 89 } : Room) (va_Pc [.ref q1, .int x2, .int 2, .int x3, .int x4, .int x5] (PX g sz [(q74, .inl (g.2 0, 3976, .inl f55)), (q57, .inl (g.2 0, 8, .inl f55)), (q56, .inl (g.2 0, 8, .inl f55)), (q54, .inl (g.2 0, 497, .inl f55)), (q51, .inl (g.2 0, 497, .inl f52)), (q1, .inr (12, [.ref q51, w7, .ref q54, w9, .ref q74, .int 0, w12, .ref q56, .ref q57, w15, w16, w17, w18, w19, w20, w21, w22, w23, w24, w25, w26, w27, w28, w29, w30, w31, w32, w33, w34, w35, w36, w37, w38, w39, w40, w41, w42]))])) (QI g [(q74, .inl (g.2 0, 3976, .inl f55)), (q57, .inl (g.2 0, 8, .inl f55)), (q56, .inl (g.2 0, 8, .inl f55)), (q54, .inl (g.2 0, 497, .inl f55)), (q51, .inl (g.2 0, 497, .inl f52)), (q1, .inr (12, [.ref q51, w7, .ref q54, w9, .ref q74, .int 0, w12, .ref q56, .ref q57, w15, w16, w17, w18, w19, w20, w21, w22, w23, w24, w25, w26, w27, w28, w29, w30, w31, w32, w33, w34, w35, w36, w37, w38, w39, w40, w41, w42]))] sz 0 (fun _ => [(q1, .inr (12, [.ref q51, w7, .ref q54, w9, .ref q74, .int 1, .int 0, .ref q56, .ref q57, w15, w16, w17, w18, w19, w20, w21, w22, w23, w24, w25, w26, w27, w28, w29, w30, w31, w32, w33, w34, w35, w36, w37, w38, w39, w40, w41, w42]))])) 0 0 (va_A [(q74, .inl (g.2 0, 3976, .inl f55)), (q57, .inl (g.2 0, 8, .inl f55)), (q56, .inl (g.2 0, 8, .inl f55)), (q54, .inl (g.2 0, 497, .inl f55)), (q51, .inl (g.2 0, 497, .inl f52)), (q1, .inr (12, [.ref q51, w7, .ref q54, w9, .ref q74, .int 0, w12, .ref q56, .ref q57, w15, w16, w17, w18, w19, w20, w21, w22, w23, w24, w25, w26, w27, w28, w29, w30, w31, w32, w33, w34, w35, w36, w37, w38, w39, w40, w41, w42]))] sz) := by
  refine ofN (by decide) (Nat.le_of_ble_eq_true rfl) rfl ?_
  intro p e s m args below meth c A ls hAe hsz hx hb hml hr hlocks hin hown hE hP hD hA hS hl
  have hown : s.vm.findClass RX10 = some m.cls := hown
  refine lv_aload_n hx hb dX10_addClip_0 rfl (lv_at hl 0 rfl) ?_
  refine lv_iconst (v := 0) hx hb dX10_addClip_1 (by decide) ?_
  refine pf_RX10_86 (ws' := [(q74, .inl (g.2 0, 3976, .inl f55)), (q57, .inl (g.2 0, 8, .inl f55)), (q56, .inl (g.2 0, 8, .inl f55)), (q54, .inl (g.2 0, 497, .inl f55)), (q51, .inl (g.2 0, 497, .inl f52)), (q1, .inr (12, [.ref q51, w7, .ref q54, w9, .ref q74, .int 0, .int 0, .ref q56, .ref q57, w15, w16, w17, w18, w19, w20, w21, w22, w23, w24, w25, w26, w27, w28, w29, w30, w31, w32, w33, w34, w35, w36, w37, w38, w39, w40, w41, w42]))]) hx hb hown hE hP hD hS 5 rfl rfl rfl (Nat.le_of_ble_eq_true rfl) dX10_addClip_2 rfl (fun H locs hP hD hS => ?_)
  refine lv_iload_n hx hb dX10_addClip_5 rfl (lv_at hl 1 rfl) ?_
  refine lv_iconst (v := 0) hx hb dX10_addClip_6 (by decide) ?_
  refine lv_sipush (v := 9999) hx hb dX10_addClip_7 (by decide) ?_
  refine g0_i (rS (rest := []) hx hb hml hown hE hP hD (c1480_X10_in l g x2 h43 h44 H.size) (kS_X10_in hE (e1431 hE) rfl rfl ⟨(Nat.le_of_ble_eq_true rfl), (Nat.le_of_ble_eq_true rfl)⟩) [] rfl (by decide) rfl hl.1 rfl (lv_room (Nat.le_of_ble_eq_true rfl)) dX10_addClip_10 ⟨(Nat.le_of_ble_eq_true rfl), (Nat.le_of_ble_eq_true rfl)⟩) hP hD hS hA (fun u9 H locs hP hS => ?_)
  refine lv_if_eq (tgt := 59) hx hb dX10_addClip_13 (by decide) (fun h => absurd h (by decide)) (fun _ => ?_)
  refine lv_iload_n hx hb dX10_addClip_16 rfl (lv_at hl 2 rfl) ?_
  refine g0_i (rS (rest := []) hx hb hml hown hE hP hD (c94_X10_isPattern l g 2 (by decide) (by decide) H.size) (kS_X10_isPattern hE (e1428 hE) rfl rfl ⟨(Nat.le_of_ble_eq_true rfl), (Nat.le_of_ble_eq_true rfl)⟩) [] rfl (by decide) rfl hl.1 rfl (lv_room (Nat.le_of_ble_eq_true rfl)) dX10_addClip_17 ⟨(Nat.le_of_ble_eq_true rfl), (Nat.le_of_ble_eq_true rfl)⟩) hP hD hS hA (fun u9 H locs hP hS => ?_)
  refine lv_if_eq (tgt := 59) hx hb dX10_addClip_20 (by decide) (fun h => absurd h (by decide)) (fun _ => ?_)
  refine lv_iload_n hx hb dX10_addClip_23 rfl (lv_at hl 3 rfl) ?_
  refine lv_iconst (v := 1) hx hb dX10_addClip_24 (by decide) ?_
  refine lv_bipush (v := 9) hx hb dX10_addClip_25 (by decide) ?_
  refine g0_i (rS (rest := []) hx hb hml hown hE hP hD (c196_X10_in l g x3 h45 h46 H.size) (kS_X10_in hE (e1431 hE) rfl rfl ⟨(Nat.le_of_ble_eq_true rfl), (Nat.le_of_ble_eq_true rfl)⟩) [] rfl (by decide) rfl hl.1 rfl (lv_room (Nat.le_of_ble_eq_true rfl)) dX10_addClip_27 ⟨(Nat.le_of_ble_eq_true rfl), (Nat.le_of_ble_eq_true rfl)⟩) hP hD hS hA (fun u9 H locs hP hS => ?_)
  refine lv_if_eq (tgt := 59) hx hb dX10_addClip_30 (by decide) (fun h => absurd h (by decide)) (fun _ => ?_)
  refine lv_iload hx hb dX10_addClip_33 (lv_at hl 4 rfl) ?_
  refine lv_bipush (v := (-50)) hx hb dX10_addClip_35 (by decide) ?_
  refine lv_bipush (v := 50) hx hb dX10_addClip_37 (by decide) ?_
  refine g0_i (rS (rest := []) hx hb hml hown hE hP hD (c1494_X10_in l g x4 h47 h48 H.size) (kS_X10_in hE (e1431 hE) rfl rfl ⟨(Nat.le_of_ble_eq_true rfl), (Nat.le_of_ble_eq_true rfl)⟩) [] rfl (by decide) rfl hl.1 rfl (lv_room (Nat.le_of_ble_eq_true rfl)) dX10_addClip_39 ⟨(Nat.le_of_ble_eq_true rfl), (Nat.le_of_ble_eq_true rfl)⟩) hP hD hS hA (fun u9 H locs hP hS => ?_)
  refine lv_if_eq (tgt := 59) hx hb dX10_addClip_42 (by decide) (fun h => absurd h (by decide)) (fun _ => ?_)
  refine lv_iload hx hb dX10_addClip_45 (lv_at hl 5 rfl) ?_
  refine lv_iconst (v := 0) hx hb dX10_addClip_47 (by decide) ?_
  refine lv_iconst (v := 3) hx hb dX10_addClip_48 (by decide) ?_
  refine g0_i (rS (rest := []) hx hb hml hown hE hP hD (c818_X10_in l g x5 h49 h50 H.size) (kS_X10_in hE (e1431 hE) rfl rfl ⟨(Nat.le_of_ble_eq_true rfl), (Nat.le_of_ble_eq_true rfl)⟩) [] rfl (by decide) rfl hl.1 rfl (lv_room (Nat.le_of_ble_eq_true rfl)) dX10_addClip_49 ⟨(Nat.le_of_ble_eq_true rfl), (Nat.le_of_ble_eq_true rfl)⟩) hP hD hS hA (fun u9 H locs hP hS => ?_)
  refine lv_if_eq (tgt := 59) hx hb dX10_addClip_52 (by decide) (fun h => absurd h (by decide)) (fun _ => ?_)
  refine lv_iconst (v := 1) hx hb dX10_addClip_55 (by decide) ?_
  refine lv_goto (tgt := 60) hx hb dX10_addClip_56 (by decide) ?_
  refine lv_istore (lv' := [(6, .int 1), (0, .ref q1), (1, .int x2), (2, .int 2), (3, .int x3), (4, .int x4), (5, .int x5)]) hx hb dX10_addClip_60 hl (by decide) rfl (fun ls hl => ?_)
  refine lv_iload hx hb dX10_addClip_62 (lv_at hl 0 rfl) ?_
  refine lv_if_ne (tgt := 73) hx hb dX10_addClip_64 (by decide) (fun _ => ?_) (fun h => absurd h (by decide))
  refine lv_aload_n hx hb dX10_addClip_73 rfl (lv_at hl 1 rfl) ?_
  refine gf_RX10_9 hx hb hown hE hP 5 rfl rfl dX10_addClip_74 ?_
  refine lv_sipush (v := 392) hx hb dX10_addClip_77 (by decide) ?_
  refine x_iald (v := 0) hx hb hE hP 4 rfl 392 (x_in (by decide)) (by decide) hf53 dX10_addClip_80 ?_
  refine lv_bipush (v := 12) hx hb dX10_addClip_81 (by decide) ?_
  refine lv_icmp_ne (tgt := 92) hx hb dX10_addClip_83 (by decide) (fun _ => ?_) (fun h => absurd h (by decide))
  refine lv_aload_n hx hb dX10_addClip_92 rfl (lv_at hl 1 rfl) ?_
  refine g_v (wr := [(q74, .inl (g.2 0, 3976, .inl f55)), (q57, .inl (g.2 0, 8, .inl f55)), (q56, .inl (g.2 0, 8, .inl f55))]) (rV (rest := []) hx hb hml hown hE hP hD 5 rfl rfl (c198_X10_putAside l g q1 q54 q51 w7 w9 (.ref q74) (.int 0) (.int 0) (.ref q56) (.ref q57) w15 w16 w17 w18 w19 w20 w21 w22 w23 w24 w25 w26 w27 w28 w29 w30 w31 w32 w33 w34 w35 w36 w37 w38 w39 w40 w41 w42 f52 f55 H.size) (kV_X10_putAside hE (e1437 hE) rfl rfl ⟨(Nat.le_of_ble_eq_true rfl), (Nat.le_of_ble_eq_true rfl)⟩) [3, 4, 5] rfl (by decide) rfl hl.1 rfl (lv_room (Nat.le_of_ble_eq_true rfl)) dX10_addClip_93 ⟨(Nat.le_of_ble_eq_true rfl), (Nat.le_of_ble_eq_true rfl)⟩) hP hD hS hA [3, 4, 5] [0, 1, 2] rfl rfl (by decide) (by decide) (fun u6 H locs hP hD hS => ?_)
  have hP : va_P g.1 vwCl [(q74, .inl (g.2 0, 3976, .inl f55)), (q57, .inl (g.2 0, 8, .inl f55)), (q56, .inl (g.2 0, 8, .inl f55)), (q54, .inl (g.2 0, 497, .inl (cpF 497 f52 f55))), (q51, .inl (g.2 0, 497, .inl f52)), (q1, .inr (12, [.ref q51, w7, .ref q54, w9, .ref q74, .int 0, .int 0, .ref q56, .ref q57, w15, w16, w17, w18, w19, w20, w21, w22, w23, w24, w25, w26, w27, w28, w29, w30, w31, w32, w33, w34, w35, w36, w37, w38, w39, w40, w41, w42]))] H := hP
  have hD : va_D A [(q74, .inl (g.2 0, 3976, .inl f55)), (q57, .inl (g.2 0, 8, .inl f55)), (q56, .inl (g.2 0, 8, .inl f55)), (q54, .inl (g.2 0, 497, .inl (cpF 497 f52 f55))), (q51, .inl (g.2 0, 497, .inl f52)), (q1, .inr (12, [.ref q51, w7, .ref q54, w9, .ref q74, .int 0, .int 0, .ref q56, .ref q57, w15, w16, w17, w18, w19, w20, w21, w22, w23, w24, w25, w26, w27, w28, w29, w30, w31, w32, w33, w34, w35, w36, w37, w38, w39, w40, w41, w42]))] := hD
  refine lv_sipush (v := 393) hx hb dX10_addClip_96 (by decide) ?_
  refine lv_iconst (v := 5) hx hb dX10_addClip_99 (by decide) ?_
  refine lv_aload_n hx hb dX10_addClip_100 rfl (lv_at hl 1 rfl) ?_
  refine gf_RX10_9 hx hb hown hE hP 5 rfl rfl dX10_addClip_101 ?_
  refine lv_sipush (v := 392) hx hb dX10_addClip_104 (by decide) ?_
  refine x_iald (v := 0) hx hb hE hP 4 rfl 392 (x_in (by decide)) (by decide) hf53 dX10_addClip_107 ?_
  refine x_imul (v := 0) hx hb dX10_addClip_108 (by decide) ?_
  refine x_iadd (v := 393) hx hb dX10_addClip_109 (by decide) ?_
  refine lv_istore (lv' := [(7, .int 393), (6, .int 1), (0, .ref q1), (1, .int x2), (2, .int 2), (3, .int x3), (4, .int x4), (5, .int x5)]) hx hb dX10_addClip_110 hl (by decide) rfl (fun ls hl => ?_)
  refine lv_aload_n hx hb dX10_addClip_112 rfl (lv_at hl 2 rfl) ?_
  refine gf_RX10_9 hx hb hown hE hP 5 rfl rfl dX10_addClip_113 ?_
  refine lv_iload hx hb dX10_addClip_116 (lv_at hl 0 rfl) ?_
  refine lv_iload_n hx hb dX10_addClip_118 rfl (lv_at hl 3 rfl) ?_
  refine x_iast (ws' := [(q74, .inl (g.2 0, 3976, .inl f55)), (q57, .inl (g.2 0, 8, .inl f55)), (q56, .inl (g.2 0, 8, .inl f55)), (q54, .inl (g.2 0, 497, .inl (cpF 497 f52 f55))), (q51, .inl (g.2 0, 497, .inl (upd f52 393 x2))), (q1, .inr (12, [.ref q51, w7, .ref q54, w9, .ref q74, .int 0, .int 0, .ref q56, .ref q57, w15, w16, w17, w18, w19, w20, w21, w22, w23, w24, w25, w26, w27, w28, w29, w30, w31, w32, w33, w34, w35, w36, w37, w38, w39, w40, w41, w42]))]) hx hb hE hP hD hS 4 rfl 393 (x_in (by decide)) (by decide) dX10_addClip_119 rfl (fun H locs hP hD hS => ?_)
  refine lv_aload_n hx hb dX10_addClip_120 rfl (lv_at hl 2 rfl) ?_
  refine gf_RX10_9 hx hb hown hE hP 5 rfl rfl dX10_addClip_121 ?_
  refine lv_iload hx hb dX10_addClip_124 (lv_at hl 0 rfl) ?_
  refine lv_iconst (v := 1) hx hb dX10_addClip_126 (by decide) ?_
  refine x_iadd (v := 394) hx hb dX10_addClip_127 (by decide) ?_
  refine lv_iload_n hx hb dX10_addClip_128 rfl (lv_at hl 4 rfl) ?_
  refine x_iast (ws' := [(q74, .inl (g.2 0, 3976, .inl f55)), (q57, .inl (g.2 0, 8, .inl f55)), (q56, .inl (g.2 0, 8, .inl f55)), (q54, .inl (g.2 0, 497, .inl (cpF 497 f52 f55))), (q51, .inl (g.2 0, 497, .inl (upd (upd f52 393 x2) 394 2))), (q1, .inr (12, [.ref q51, w7, .ref q54, w9, .ref q74, .int 0, .int 0, .ref q56, .ref q57, w15, w16, w17, w18, w19, w20, w21, w22, w23, w24, w25, w26, w27, w28, w29, w30, w31, w32, w33, w34, w35, w36, w37, w38, w39, w40, w41, w42]))]) hx hb hE hP hD hS 4 rfl 394 (x_in (by decide)) (by decide) dX10_addClip_129 rfl (fun H locs hP hD hS => ?_)
  refine lv_aload_n hx hb dX10_addClip_130 rfl (lv_at hl 2 rfl) ?_
  refine gf_RX10_9 hx hb hown hE hP 5 rfl rfl dX10_addClip_131 ?_
  refine lv_iload hx hb dX10_addClip_134 (lv_at hl 0 rfl) ?_
  refine lv_iconst (v := 2) hx hb dX10_addClip_136 (by decide) ?_
  refine x_iadd (v := 395) hx hb dX10_addClip_137 (by decide) ?_
  refine lv_iload_n hx hb dX10_addClip_138 rfl (lv_at hl 5 rfl) ?_
  refine x_iast (ws' := [(q74, .inl (g.2 0, 3976, .inl f55)), (q57, .inl (g.2 0, 8, .inl f55)), (q56, .inl (g.2 0, 8, .inl f55)), (q54, .inl (g.2 0, 497, .inl (cpF 497 f52 f55))), (q51, .inl (g.2 0, 497, .inl (upd (upd (upd f52 393 x2) 394 2) 395 x3))), (q1, .inr (12, [.ref q51, w7, .ref q54, w9, .ref q74, .int 0, .int 0, .ref q56, .ref q57, w15, w16, w17, w18, w19, w20, w21, w22, w23, w24, w25, w26, w27, w28, w29, w30, w31, w32, w33, w34, w35, w36, w37, w38, w39, w40, w41, w42]))]) hx hb hE hP hD hS 4 rfl 395 (x_in (by decide)) (by decide) dX10_addClip_139 rfl (fun H locs hP hD hS => ?_)
  refine lv_aload_n hx hb dX10_addClip_140 rfl (lv_at hl 2 rfl) ?_
  refine gf_RX10_9 hx hb hown hE hP 5 rfl rfl dX10_addClip_141 ?_
  refine lv_iload hx hb dX10_addClip_144 (lv_at hl 0 rfl) ?_
  refine lv_iconst (v := 3) hx hb dX10_addClip_146 (by decide) ?_
  refine x_iadd (v := 396) hx hb dX10_addClip_147 (by decide) ?_
  refine lv_iload hx hb dX10_addClip_148 (lv_at hl 6 rfl) ?_
  refine x_iast (ws' := [(q74, .inl (g.2 0, 3976, .inl f55)), (q57, .inl (g.2 0, 8, .inl f55)), (q56, .inl (g.2 0, 8, .inl f55)), (q54, .inl (g.2 0, 497, .inl (cpF 497 f52 f55))), (q51, .inl (g.2 0, 497, .inl (upd (upd (upd (upd f52 393 x2) 394 2) 395 x3) 396 x4))), (q1, .inr (12, [.ref q51, w7, .ref q54, w9, .ref q74, .int 0, .int 0, .ref q56, .ref q57, w15, w16, w17, w18, w19, w20, w21, w22, w23, w24, w25, w26, w27, w28, w29, w30, w31, w32, w33, w34, w35, w36, w37, w38, w39, w40, w41, w42]))]) hx hb hE hP hD hS 4 rfl 396 (x_in (by decide)) (by decide) dX10_addClip_150 rfl (fun H locs hP hD hS => ?_)
  refine lv_aload_n hx hb dX10_addClip_151 rfl (lv_at hl 2 rfl) ?_
  refine gf_RX10_9 hx hb hown hE hP 5 rfl rfl dX10_addClip_152 ?_
  refine lv_iload hx hb dX10_addClip_155 (lv_at hl 0 rfl) ?_
  refine lv_iconst (v := 4) hx hb dX10_addClip_157 (by decide) ?_
  refine x_iadd (v := 397) hx hb dX10_addClip_158 (by decide) ?_
  refine lv_iload hx hb dX10_addClip_159 (lv_at hl 7 rfl) ?_
  refine x_iast (ws' := [(q74, .inl (g.2 0, 3976, .inl f55)), (q57, .inl (g.2 0, 8, .inl f55)), (q56, .inl (g.2 0, 8, .inl f55)), (q54, .inl (g.2 0, 497, .inl (cpF 497 f52 f55))), (q51, .inl (g.2 0, 497, .inl (upd (upd (upd (upd (upd f52 393 x2) 394 2) 395 x3) 396 x4) 397 x5))), (q1, .inr (12, [.ref q51, w7, .ref q54, w9, .ref q74, .int 0, .int 0, .ref q56, .ref q57, w15, w16, w17, w18, w19, w20, w21, w22, w23, w24, w25, w26, w27, w28, w29, w30, w31, w32, w33, w34, w35, w36, w37, w38, w39, w40, w41, w42]))]) hx hb hE hP hD hS 4 rfl 397 (x_in (by decide)) (by decide) dX10_addClip_161 rfl (fun H locs hP hD hS => ?_)
  refine lv_aload_n hx hb dX10_addClip_162 rfl (lv_at hl 2 rfl) ?_
  refine gf_RX10_9 hx hb hown hE hP 5 rfl rfl dX10_addClip_163 ?_
  refine lv_sipush (v := 392) hx hb dX10_addClip_166 (by decide) ?_
  refine lv_dup2_11 hx hb dX10_addClip_169 rfl rfl ?_
  refine x_iald (v := 0) hx hb hE hP 4 rfl 392 (x_in (by decide)) (by decide) ((pk_un (by decide)).trans ((pk_un (by decide)).trans ((pk_un (by decide)).trans ((pk_un (by decide)).trans ((pk_un (by decide)).trans hf53))))) dX10_addClip_170 ?_
  refine lv_iconst (v := 1) hx hb dX10_addClip_171 (by decide) ?_
  refine x_iadd (v := 1) hx hb dX10_addClip_172 (by decide) ?_
  refine x_iast (ws' := [(q74, .inl (g.2 0, 3976, .inl f55)), (q57, .inl (g.2 0, 8, .inl f55)), (q56, .inl (g.2 0, 8, .inl f55)), (q54, .inl (g.2 0, 497, .inl (cpF 497 f52 f55))), (q51, .inl (g.2 0, 497, .inl (upd (upd (upd (upd (upd (upd f52 393 x2) 394 2) 395 x3) 396 x4) 397 x5) 392 1))), (q1, .inr (12, [.ref q51, w7, .ref q54, w9, .ref q74, .int 0, .int 0, .ref q56, .ref q57, w15, w16, w17, w18, w19, w20, w21, w22, w23, w24, w25, w26, w27, w28, w29, w30, w31, w32, w33, w34, w35, w36, w37, w38, w39, w40, w41, w42]))]) hx hb hE hP hD hS 4 rfl 392 (x_in (by decide)) (by decide) dX10_addClip_173 rfl (fun H locs hP hD hS => ?_)
  refine lv_aload_n hx hb dX10_addClip_174 rfl (lv_at hl 2 rfl) ?_
  refine g_i (wr := [(q74, .inl (g.2 0, 3976, .inl f55)), (q54, .inl (g.2 0, 497, .inl (cpF 497 f52 f55)))]) (rV (rest := []) hx hb hml hown hE hP hD 5 rfl rfl (c1532_X10_isTooGreat l g q1 q51 q56 q57 x3 w7 (.ref q54) w9 (.ref q74) (.int 0) (.int 0) w15 w16 w17 w18 w19 w20 w21 w22 w23 w24 w25 w26 w27 w28 w29 w30 w31 w32 w33 w34 w35 w36 w37 w38 w39 w40 w41 w42 (upd (upd (upd (upd (upd (upd f52 393 x2) 394 2) 395 x3) 396 x4) 397 x5) 392 1) f55 (((pk_un (by decide)).trans ((pk_un (by decide)).trans ((pk_un (by decide)).trans ((pk_un (by decide)).trans ((pk_un (by decide)).trans ((pk_un (by decide)).trans hf58))))))) (((pk_un (by decide)).trans ((pk_un (by decide)).trans ((pk_un (by decide)).trans ((pk_un (by decide)).trans ((pk_un (by decide)).trans ((pk_un (by decide)).trans hf59))))))) (((pk_un (by decide)).trans ((pk_un (by decide)).trans ((pk_un (by decide)).trans ((pk_un (by decide)).trans ((pk_un (by decide)).trans ((pk_un (by decide)).trans hf60))))))) (((pk_un (by decide)).trans ((pk_un (by decide)).trans ((pk_un (by decide)).trans ((pk_un (by decide)).trans ((pk_un (by decide)).trans ((pk_un (by decide)).trans hf61))))))) (((pk_un (by decide)).trans ((pk_un (by decide)).trans ((pk_un (by decide)).trans ((pk_un (by decide)).trans ((pk_un (by decide)).trans ((pk_un (by decide)).trans hf62))))))) (((pk_un (by decide)).trans ((pk_un (by decide)).trans ((pk_un (by decide)).trans ((pk_un (by decide)).trans ((pk_un (by decide)).trans ((pk_un (by decide)).trans hf63))))))) (((pk_un (by decide)).trans ((pk_un (by decide)).trans ((pk_un (by decide)).trans ((pk_un (by decide)).trans ((pk_un (by decide)).trans ((pk_un (by decide)).trans hf64))))))) (((pk_un (by decide)).trans ((pk_un (by decide)).trans ((pk_un (by decide)).trans ((pk_un (by decide)).trans ((pk_un (by decide)).trans ((pk_un (by decide)).trans hf65))))))) (hf66) (hf67) (hf68) (hf69) (hf70) (hf71) (hf72) (hf73) (pk_us) (((pk_un (by decide)).trans ((pk_un (by decide)).trans ((pk_un (by decide)).trans pk_us)))) (((pk_un (by decide)).trans ((pk_un (by decide)).trans ((pk_un (by decide)).trans ((pk_un (by decide)).trans pk_us))))) H.size) (kV_X10_isTooGreat hE (e1448 hE) rfl rfl ⟨(Nat.le_of_ble_eq_true rfl), (Nat.le_of_ble_eq_true rfl)⟩) [1, 2, 4, 5] rfl (by decide) rfl hl.1 rfl (lv_room (Nat.le_of_ble_eq_true rfl)) dX10_addClip_175 ⟨(Nat.le_of_ble_eq_true rfl), (Nat.le_of_ble_eq_true rfl)⟩) hP hD hS hA [1, 2, 4, 5] [0, 3] rfl rfl (by decide) (by decide) (fun u7 H locs hP hD hS => ?_)
  have hP : va_P g.1 vwCl [(q74, .inl (g.2 0, 3976, .inl f55)), (q54, .inl (g.2 0, 497, .inl (cpF 497 f52 f55))), (q57, .inl (g.2 0, 8, .inl f55)), (q56, .inl (g.2 0, 8, .inl f55)), (q51, .inl (g.2 0, 497, .inl (upd (upd (upd (upd (upd (upd f52 393 x2) 394 2) 395 x3) 396 x4) 397 x5) 392 1))), (q1, .inr (12, [.ref q51, w7, .ref q54, w9, .ref q74, .int 0, .int 0, .ref q56, .ref q57, w15, w16, w17, w18, w19, w20, w21, w22, w23, w24, w25, w26, w27, w28, w29, w30, w31, w32, w33, w34, w35, w36, w37, w38, w39, w40, w41, w42]))] H := hP
  have hD : va_D A [(q74, .inl (g.2 0, 3976, .inl f55)), (q54, .inl (g.2 0, 497, .inl (cpF 497 f52 f55))), (q57, .inl (g.2 0, 8, .inl f55)), (q56, .inl (g.2 0, 8, .inl f55)), (q51, .inl (g.2 0, 497, .inl (upd (upd (upd (upd (upd (upd f52 393 x2) 394 2) 395 x3) 396 x4) 397 x5) 392 1))), (q1, .inr (12, [.ref q51, w7, .ref q54, w9, .ref q74, .int 0, .int 0, .ref q56, .ref q57, w15, w16, w17, w18, w19, w20, w21, w22, w23, w24, w25, w26, w27, w28, w29, w30, w31, w32, w33, w34, w35, w36, w37, w38, w39, w40, w41, w42]))] := hD
  refine lv_if_eq (tgt := 191) hx hb dX10_addClip_178 (by decide) (fun _ => ?_) (fun h => absurd (by decide) h)
  refine lv_aload_n hx hb dX10_addClip_191 rfl (lv_at hl 2 rfl) ?_
  refine g_v (wr := [(q57, .inl (g.2 0, 8, .inl f55)), (q56, .inl (g.2 0, 8, .inl f55)), (q51, .inl (g.2 0, 497, .inl (upd (upd (upd (upd (upd (upd f52 393 x2) 394 2) 395 x3) 396 x4) 397 x5) 392 1)))]) (rV (rest := []) hx hb hml hown hE hP hD 5 rfl rfl (c220_X10_keep l g q1 q74 q54 (.ref q51) w7 w9 (.int 0) (.ref q56) (.ref q57) w15 w16 w17 w18 w19 w20 w21 w22 w23 w24 w25 w26 w27 w28 w29 w30 w31 w32 w33 w34 w35 w36 w37 w38 w39 w40 w41 w42 (cpF 497 f52 f55) f55 H.size) (kV_X10_keep hE (e1478 hE) rfl rfl ⟨(Nat.le_of_ble_eq_true rfl), (Nat.le_of_ble_eq_true rfl)⟩) [0, 1, 5] rfl (by decide) rfl hl.1 rfl (lv_room (Nat.le_of_ble_eq_true rfl)) dX10_addClip_192 ⟨(Nat.le_of_ble_eq_true rfl), (Nat.le_of_ble_eq_true rfl)⟩) hP hD hS hA [0, 1, 5] [2, 3, 4] rfl rfl (by decide) (by decide) (fun u8 H locs hP hD hS => ?_)
  have hP : va_P g.1 vwCl [(q57, .inl (g.2 0, 8, .inl f55)), (q56, .inl (g.2 0, 8, .inl f55)), (q51, .inl (g.2 0, 497, .inl (upd (upd (upd (upd (upd (upd f52 393 x2) 394 2) 395 x3) 396 x4) 397 x5) 392 1))), (q74, .inl (g.2 0, 3976, .inl (cpF 497 (cpF 497 f52 f55) f55))), (q54, .inl (g.2 0, 497, .inl (cpF 497 f52 f55))), (q1, .inr (12, [.ref q51, w7, .ref q54, w9, .ref q74, .int 1, .int 0, .ref q56, .ref q57, w15, w16, w17, w18, w19, w20, w21, w22, w23, w24, w25, w26, w27, w28, w29, w30, w31, w32, w33, w34, w35, w36, w37, w38, w39, w40, w41, w42]))] H := hP
  have hD : va_D A [(q57, .inl (g.2 0, 8, .inl f55)), (q56, .inl (g.2 0, 8, .inl f55)), (q51, .inl (g.2 0, 497, .inl (upd (upd (upd (upd (upd (upd f52 393 x2) 394 2) 395 x3) 396 x4) 397 x5) 392 1))), (q74, .inl (g.2 0, 3976, .inl (cpF 497 (cpF 497 f52 f55) f55))), (q54, .inl (g.2 0, 497, .inl (cpF 497 f52 f55))), (q1, .inr (12, [.ref q51, w7, .ref q54, w9, .ref q74, .int 1, .int 0, .ref q56, .ref q57, w15, w16, w17, w18, w19, w20, w21, w22, w23, w24, w25, w26, w27, w28, w29, w30, w31, w32, w33, w34, w35, w36, w37, w38, w39, w40, w41, w42]))] := hD
  refine lv_aload_n hx hb dX10_addClip_195 rfl (lv_at hl 2 rfl) ?_
  refine gf_RX10_9 hx hb hown hE hP 5 rfl rfl dX10_addClip_196 ?_
  refine lv_sipush (v := 392) hx hb dX10_addClip_199 (by decide) ?_
  refine x_iald (v := 1) hx hb hE hP 2 rfl 392 (x_in (by decide)) (by decide) pk_us dX10_addClip_202 ?_
  refine lv_iconst (v := 1) hx hb dX10_addClip_203 (by decide) ?_
  refine x_isub (v := 0) hx hb dX10_addClip_204 (by decide) ?_
  exact x_zret hx hb hr rfl rfl hlocks hP hD hS hAe hsz (Nat.le_of_ble_eq_true rfl) (Nat.le_of_ble_eq_true rfl) (fun _ => 0) [5] (by decide) rfl dX10_addClip_205

set_option maxHeartbeats 4000000 in
set_option maxRecDepth 100000 in
theorem c1534_X6_clipLength (l : Launch) (g : gG) (q1 q9 q13 q17 : Nat) (x12 : Int32) (w3 w5 w6 w7 w8 w15 : Value) (f10 : Nat → Int32) (f18 : Nat → Int32) (hf11 : f10 2 = x12) (hf14 : f10 1 = 3) (hf19 : f18 16 = 0) (sz : Nat) : Met l yX6_clipLength [Cond.code yX6_clipLength cX6_clipLength 2 (some .int)] ({ frames := 1, cells := 0, slots := 0, locals := 23 } : Room) (va_Pc [.ref q1, .int 0] (PX g sz [(q17, .inl (g.2 0, 40, .inl f18)), (q13, .inr (5, [w15, .ref q17])), (q9, .inl (g.2 0, 60, .inl f10)), (q1, .inr (8, [.ref q13, w3, .ref q9, w5, w6, w7, w8]))])) (QI g [(q17, .inl (g.2 0, 40, .inl f18)), (q13, .inr (5, [w15, .ref q17])), (q9, .inl (g.2 0, 60, .inl f10)), (q1, .inr (8, [.ref q13, w3, .ref q9, w5, w6, w7, w8]))] sz 0 (fun _ => [(q9, .inl (g.2 0, 60, .inl f10)), (q1, .inr (8, [.ref q13, w3, .ref q9, w5, w6, w7, w8])), (q17, .inl (g.2 0, 40, .inl f18)), (q13, .inr (5, [w15, .ref q17]))])) 0 0 (va_A [(q17, .inl (g.2 0, 40, .inl f18)), (q13, .inr (5, [w15, .ref q17])), (q9, .inl (g.2 0, 60, .inl f10)), (q1, .inr (8, [.ref q13, w3, .ref q9, w5, w6, w7, w8]))] sz) := by
  refine ofN (by decide) (Nat.le_of_ble_eq_true rfl) rfl ?_
  intro p e s m args below meth c A ls hAe hsz hx hb hml hr hlocks hin hown hE hP hD hA hS hl
  have hown : s.vm.findClass RX6 = some m.cls := hown
  refine lv_aload_n hx hb dX6_clipLength_0 rfl (lv_at hl 0 rfl) ?_
  refine lv_iload_n hx hb dX6_clipLength_1 rfl (lv_at hl 1 rfl) ?_
  refine lv_iconst (v := 2) hx hb dX6_clipLength_2 (by decide) ?_
  refine g_i (wr := [(q17, .inl (g.2 0, 40, .inl f18)), (q13, .inr (5, [w15, .ref q17]))]) (rV (rest := []) hx hb hml hown hE hP hD 3 rfl rfl (c1503_X6_clipNumber l g q1 q9 x12 (.ref q13) w3 w5 w6 w7 w8 f10 (hf11) s.heap.size) (kV_X6_clipNumber hE (e711 hE) rfl rfl ⟨(Nat.le_of_ble_eq_true rfl), (Nat.le_of_ble_eq_true rfl)⟩) [2, 3] rfl (by decide) rfl hl.1 rfl (lv_room (Nat.le_of_ble_eq_true rfl)) dX6_clipLength_3 ⟨(Nat.le_of_ble_eq_true rfl), (Nat.le_of_ble_eq_true rfl)⟩) hP hD hS hA [2, 3] [0, 1] rfl rfl (by decide) (by decide) (fun u1 H locs hP hD hS => ?_)
  have hP : va_P g.1 vwCl [(q17, .inl (g.2 0, 40, .inl f18)), (q13, .inr (5, [w15, .ref q17])), (q9, .inl (g.2 0, 60, .inl f10)), (q1, .inr (8, [.ref q13, w3, .ref q9, w5, w6, w7, w8]))] H := hP
  have hD : va_D A [(q17, .inl (g.2 0, 40, .inl f18)), (q13, .inr (5, [w15, .ref q17])), (q9, .inl (g.2 0, 60, .inl f10)), (q1, .inr (8, [.ref q13, w3, .ref q9, w5, w6, w7, w8]))] := hD
  refine lv_aload_n hx hb dX6_clipLength_6 rfl (lv_at hl 0 rfl) ?_
  refine gf_RX6_12 hx hb hown hE hP 3 rfl rfl dX6_clipLength_7 ?_
  refine lv_aload_n hx hb dX6_clipLength_10 rfl (lv_at hl 0 rfl) ?_
  refine lv_iload_n hx hb dX6_clipLength_11 rfl (lv_at hl 1 rfl) ?_
  refine lv_iconst (v := 1) hx hb dX6_clipLength_12 (by decide) ?_
  refine g_i (wr := [(q17, .inl (g.2 0, 40, .inl f18)), (q13, .inr (5, [w15, .ref q17]))]) (rV (rest := [.ref q13, .int x12]) hx hb hml hown hE hP hD 3 rfl rfl (c1504_X6_clipNumber l g q1 q9 3 (.ref q13) w3 w5 w6 w7 w8 f10 (hf14) H.size) (kV_X6_clipNumber hE (e711 hE) rfl rfl ⟨(Nat.le_of_ble_eq_true rfl), (Nat.le_of_ble_eq_true rfl)⟩) [2, 3] rfl (by decide) rfl hl.1 rfl (lv_room (Nat.le_of_ble_eq_true rfl)) dX6_clipLength_13 ⟨(Nat.le_of_ble_eq_true rfl), (Nat.le_of_ble_eq_true rfl)⟩) hP hD hS hA [2, 3] [0, 1] rfl rfl (by decide) (by decide) (fun u2 H locs hP hD hS => ?_)
  have hP : va_P g.1 vwCl [(q17, .inl (g.2 0, 40, .inl f18)), (q13, .inr (5, [w15, .ref q17])), (q9, .inl (g.2 0, 60, .inl f10)), (q1, .inr (8, [.ref q13, w3, .ref q9, w5, w6, w7, w8]))] H := hP
  have hD : va_D A [(q17, .inl (g.2 0, 40, .inl f18)), (q13, .inr (5, [w15, .ref q17])), (q9, .inl (g.2 0, 60, .inl f10)), (q1, .inr (8, [.ref q13, w3, .ref q9, w5, w6, w7, w8]))] := hD
  refine lv_iconst (v := 1) hx hb dX6_clipLength_16 (by decide) ?_
  refine g_i (wr := [(q9, .inl (g.2 0, 60, .inl f10)), (q1, .inr (8, [.ref q13, w3, .ref q9, w5, w6, w7, w8]))]) (rV (rest := [.int x12]) hx hb hml hown hE hP hD 1 rfl rfl (c163_X3_figure l g q13 q17 w15 f18 (hf19) H.size) (kV_X3_figure hE (e712 hE) rfl rfl ⟨(Nat.le_of_ble_eq_true rfl), (Nat.le_of_ble_eq_true rfl)⟩) [0, 1] rfl (by decide) rfl hl.1 rfl (lv_room (Nat.le_of_ble_eq_true rfl)) dX6_clipLength_17 ⟨(Nat.le_of_ble_eq_true rfl), (Nat.le_of_ble_eq_true rfl)⟩) hP hD hS hA [0, 1] [2, 3] rfl rfl (by decide) (by decide) (fun u3 H locs hP hD hS => ?_)
  have hP : va_P g.1 vwCl [(q9, .inl (g.2 0, 60, .inl f10)), (q1, .inr (8, [.ref q13, w3, .ref q9, w5, w6, w7, w8])), (q17, .inl (g.2 0, 40, .inl f18)), (q13, .inr (5, [w15, .ref q17]))] H := hP
  have hD : va_D A [(q9, .inl (g.2 0, 60, .inl f10)), (q1, .inr (8, [.ref q13, w3, .ref q9, w5, w6, w7, w8])), (q17, .inl (g.2 0, 40, .inl f18)), (q13, .inr (5, [w15, .ref q17]))] := hD
  refine x_imul (v := 0) hx hb dX6_clipLength_20 (Int32.mul_zero) ?_
  exact x_zret hx hb hr rfl rfl hlocks hP hD hS hAe hsz (Nat.le_of_ble_eq_true rfl) (Nat.le_of_ble_eq_true rfl) (fun _ => 0) [0, 1, 2, 3] (by decide) rfl dX6_clipLength_21

set_option maxHeartbeats 4000000 in
set_option maxRecDepth 100000 in
theorem c1535_X6_clipNotes (l : Launch) (g : gG) (q1 q9 q13 q17 : Nat) (x12 : Int32) (w3 w5 w6 w7 w8 w15 : Value) (f10 : Nat → Int32) (f18 : Nat → Int32) (hf11 : f10 2 = x12) (hf14 : f10 1 = 3) (hf19 : f18 17 = 0) (sz : Nat) : Met l yX6_clipNotes [Cond.code yX6_clipNotes cX6_clipNotes 2 (some .int)] ({ frames := 1, cells := 0, slots := 0, locals := 23 } : Room) (va_Pc [.ref q1, .int 0] (PX g sz [(q17, .inl (g.2 0, 40, .inl f18)), (q13, .inr (5, [w15, .ref q17])), (q9, .inl (g.2 0, 60, .inl f10)), (q1, .inr (8, [.ref q13, w3, .ref q9, w5, w6, w7, w8]))])) (QI g [(q17, .inl (g.2 0, 40, .inl f18)), (q13, .inr (5, [w15, .ref q17])), (q9, .inl (g.2 0, 60, .inl f10)), (q1, .inr (8, [.ref q13, w3, .ref q9, w5, w6, w7, w8]))] sz 0 (fun _ => [(q9, .inl (g.2 0, 60, .inl f10)), (q1, .inr (8, [.ref q13, w3, .ref q9, w5, w6, w7, w8])), (q17, .inl (g.2 0, 40, .inl f18)), (q13, .inr (5, [w15, .ref q17]))])) 0 0 (va_A [(q17, .inl (g.2 0, 40, .inl f18)), (q13, .inr (5, [w15, .ref q17])), (q9, .inl (g.2 0, 60, .inl f10)), (q1, .inr (8, [.ref q13, w3, .ref q9, w5, w6, w7, w8]))] sz) := by
  refine ofN (by decide) (Nat.le_of_ble_eq_true rfl) rfl ?_
  intro p e s m args below meth c A ls hAe hsz hx hb hml hr hlocks hin hown hE hP hD hA hS hl
  have hown : s.vm.findClass RX6 = some m.cls := hown
  refine lv_aload_n hx hb dX6_clipNotes_0 rfl (lv_at hl 0 rfl) ?_
  refine lv_iload_n hx hb dX6_clipNotes_1 rfl (lv_at hl 1 rfl) ?_
  refine lv_iconst (v := 2) hx hb dX6_clipNotes_2 (by decide) ?_
  refine g_i (wr := [(q17, .inl (g.2 0, 40, .inl f18)), (q13, .inr (5, [w15, .ref q17]))]) (rV (rest := []) hx hb hml hown hE hP hD 3 rfl rfl (c1503_X6_clipNumber l g q1 q9 x12 (.ref q13) w3 w5 w6 w7 w8 f10 (hf11) s.heap.size) (kV_X6_clipNumber hE (e711 hE) rfl rfl ⟨(Nat.le_of_ble_eq_true rfl), (Nat.le_of_ble_eq_true rfl)⟩) [2, 3] rfl (by decide) rfl hl.1 rfl (lv_room (Nat.le_of_ble_eq_true rfl)) dX6_clipNotes_3 ⟨(Nat.le_of_ble_eq_true rfl), (Nat.le_of_ble_eq_true rfl)⟩) hP hD hS hA [2, 3] [0, 1] rfl rfl (by decide) (by decide) (fun u1 H locs hP hD hS => ?_)
  have hP : va_P g.1 vwCl [(q17, .inl (g.2 0, 40, .inl f18)), (q13, .inr (5, [w15, .ref q17])), (q9, .inl (g.2 0, 60, .inl f10)), (q1, .inr (8, [.ref q13, w3, .ref q9, w5, w6, w7, w8]))] H := hP
  have hD : va_D A [(q17, .inl (g.2 0, 40, .inl f18)), (q13, .inr (5, [w15, .ref q17])), (q9, .inl (g.2 0, 60, .inl f10)), (q1, .inr (8, [.ref q13, w3, .ref q9, w5, w6, w7, w8]))] := hD
  refine lv_aload_n hx hb dX6_clipNotes_6 rfl (lv_at hl 0 rfl) ?_
  refine gf_RX6_12 hx hb hown hE hP 3 rfl rfl dX6_clipNotes_7 ?_
  refine lv_aload_n hx hb dX6_clipNotes_10 rfl (lv_at hl 0 rfl) ?_
  refine lv_iload_n hx hb dX6_clipNotes_11 rfl (lv_at hl 1 rfl) ?_
  refine lv_iconst (v := 1) hx hb dX6_clipNotes_12 (by decide) ?_
  refine g_i (wr := [(q17, .inl (g.2 0, 40, .inl f18)), (q13, .inr (5, [w15, .ref q17]))]) (rV (rest := [.ref q13, .int x12]) hx hb hml hown hE hP hD 3 rfl rfl (c1504_X6_clipNumber l g q1 q9 3 (.ref q13) w3 w5 w6 w7 w8 f10 (hf14) H.size) (kV_X6_clipNumber hE (e711 hE) rfl rfl ⟨(Nat.le_of_ble_eq_true rfl), (Nat.le_of_ble_eq_true rfl)⟩) [2, 3] rfl (by decide) rfl hl.1 rfl (lv_room (Nat.le_of_ble_eq_true rfl)) dX6_clipNotes_13 ⟨(Nat.le_of_ble_eq_true rfl), (Nat.le_of_ble_eq_true rfl)⟩) hP hD hS hA [2, 3] [0, 1] rfl rfl (by decide) (by decide) (fun u2 H locs hP hD hS => ?_)
  have hP : va_P g.1 vwCl [(q17, .inl (g.2 0, 40, .inl f18)), (q13, .inr (5, [w15, .ref q17])), (q9, .inl (g.2 0, 60, .inl f10)), (q1, .inr (8, [.ref q13, w3, .ref q9, w5, w6, w7, w8]))] H := hP
  have hD : va_D A [(q17, .inl (g.2 0, 40, .inl f18)), (q13, .inr (5, [w15, .ref q17])), (q9, .inl (g.2 0, 60, .inl f10)), (q1, .inr (8, [.ref q13, w3, .ref q9, w5, w6, w7, w8]))] := hD
  refine lv_iconst (v := 2) hx hb dX6_clipNotes_16 (by decide) ?_
  refine g_i (wr := [(q9, .inl (g.2 0, 60, .inl f10)), (q1, .inr (8, [.ref q13, w3, .ref q9, w5, w6, w7, w8]))]) (rV (rest := [.int x12]) hx hb hml hown hE hP hD 1 rfl rfl (c864_X3_figure l g q13 q17 w15 f18 (hf19) H.size) (kV_X3_figure hE (e712 hE) rfl rfl ⟨(Nat.le_of_ble_eq_true rfl), (Nat.le_of_ble_eq_true rfl)⟩) [0, 1] rfl (by decide) rfl hl.1 rfl (lv_room (Nat.le_of_ble_eq_true rfl)) dX6_clipNotes_17 ⟨(Nat.le_of_ble_eq_true rfl), (Nat.le_of_ble_eq_true rfl)⟩) hP hD hS hA [0, 1] [2, 3] rfl rfl (by decide) (by decide) (fun u3 H locs hP hD hS => ?_)
  have hP : va_P g.1 vwCl [(q9, .inl (g.2 0, 60, .inl f10)), (q1, .inr (8, [.ref q13, w3, .ref q9, w5, w6, w7, w8])), (q17, .inl (g.2 0, 40, .inl f18)), (q13, .inr (5, [w15, .ref q17]))] H := hP
  have hD : va_D A [(q9, .inl (g.2 0, 60, .inl f10)), (q1, .inr (8, [.ref q13, w3, .ref q9, w5, w6, w7, w8])), (q17, .inl (g.2 0, 40, .inl f18)), (q13, .inr (5, [w15, .ref q17]))] := hD
  refine x_imul (v := 0) hx hb dX6_clipNotes_20 (Int32.mul_zero) ?_
  exact x_zret hx hb hr rfl rfl hlocks hP hD hS hAe hsz (Nat.le_of_ble_eq_true rfl) (Nat.le_of_ble_eq_true rfl) (fun _ => 0) [0, 1, 2, 3] (by decide) rfl dX6_clipNotes_21

set_option maxHeartbeats 4000000 in
set_option maxRecDepth 100000 in
theorem c1536_X6_hasFittingClips (l : Launch) (g : gG) (q1 q9 q10 q17 : Nat) (x13 : Int32) (w3 w5 w7 w8 w15 : Value) (f11 : Nat → Int32) (f18 : Nat → Int32) (hf12 : f11 2 = x13) (hf14 : f11 1 = 3) (hf19 : f18 16 = 0) (hf20 : f18 17 = 0) (sz : Nat) : Met l yX6_hasFittingClips [Cond.code yX6_hasFittingClips cX6_hasFittingClips 3 (some .boolean)] ({ frames := 2, cells := 0, slots := 0, locals := 44 } : Room) (va_Pc [.ref q1] (PX g sz [(q17, .inl (g.2 0, 40, .inl f18)), (q9, .inr (5, [w15, .ref q17])), (q10, .inl (g.2 0, 60, .inl f11)), (q1, .inr (8, [.ref q9, w3, .ref q10, w5, .int 1, w7, w8]))])) (QI g [(q17, .inl (g.2 0, 40, .inl f18)), (q9, .inr (5, [w15, .ref q17])), (q10, .inl (g.2 0, 60, .inl f11)), (q1, .inr (8, [.ref q9, w3, .ref q10, w5, .int 1, w7, w8]))] sz 1 (fun _ => [(q10, .inl (g.2 0, 60, .inl f11)), (q1, .inr (8, [.ref q9, w3, .ref q10, w5, .int 1, w7, w8])), (q17, .inl (g.2 0, 40, .inl f18)), (q9, .inr (5, [w15, .ref q17]))])) 0 0 (va_A [(q17, .inl (g.2 0, 40, .inl f18)), (q9, .inr (5, [w15, .ref q17])), (q10, .inl (g.2 0, 60, .inl f11)), (q1, .inr (8, [.ref q9, w3, .ref q10, w5, .int 1, w7, w8]))] sz) := by
  refine ofN (by decide) (Nat.le_of_ble_eq_true rfl) rfl ?_
  intro p e s m args below meth c A ls hAe hsz hx hb hml hr hlocks hin hown hE hP hD hA hS hl
  have hown : s.vm.findClass RX6 = some m.cls := hown
  refine lv_iconst (v := 0) hx hb dX6_hasFittingClips_0 (by decide) ?_
  refine lv_istore_n (lv' := [(1, .int 0), (0, .ref q1)]) hx hb dX6_hasFittingClips_1 rfl hl (by decide) rfl (fun ls hl => ?_)
  refine lv_iconst (v := 0) hx hb dX6_hasFittingClips_2 (by decide) ?_
  refine lv_istore_n (lv' := [(2, .int 0), (1, .int 0), (0, .ref q1)]) hx hb dX6_hasFittingClips_3 rfl hl (by decide) rfl (fun ls hl => ?_)
  refine lv_iload_n hx hb dX6_hasFittingClips_4 rfl (lv_at hl 0 rfl) ?_
  refine lv_aload_n hx hb dX6_hasFittingClips_5 rfl (lv_at hl 2 rfl) ?_
  refine gf_RX6_37 hx hb hown hE hP 3 rfl rfl dX6_hasFittingClips_6 ?_
  refine lv_icmp_ge (tgt := 39) hx hb dX6_hasFittingClips_9 (by decide) (fun h => absurd h (by decide)) (fun _ => ?_)
  refine lv_aload_n hx hb dX6_hasFittingClips_12 rfl (lv_at hl 2 rfl) ?_
  refine lv_iload_n hx hb dX6_hasFittingClips_13 rfl (lv_at hl 0 rfl) ?_
  refine g_i (wr := []) (rV (rest := []) hx hb hml hown hE hP hD 3 rfl rfl (c1534_X6_clipLength l g q1 q10 q9 q17 x13 w3 w5 (.int 1) w7 w8 w15 f11 f18 (hf12) (hf14) (hf19) s.heap.size) (kV_X6_clipLength hE (e707 hE) rfl rfl ⟨(Nat.le_of_ble_eq_true rfl), (Nat.le_of_ble_eq_true rfl)⟩) [0, 1, 2, 3] rfl (by decide) rfl hl.1 rfl (lv_room (Nat.le_of_ble_eq_true rfl)) dX6_hasFittingClips_14 ⟨(Nat.le_of_ble_eq_true rfl), (Nat.le_of_ble_eq_true rfl)⟩) hP hD hS hA [0, 1, 2, 3] [] rfl rfl (by decide) (by decide) (fun u1 H locs hP hD hS => ?_)
  have hP : va_P g.1 vwCl [(q10, .inl (g.2 0, 60, .inl f11)), (q1, .inr (8, [.ref q9, w3, .ref q10, w5, .int 1, w7, w8])), (q17, .inl (g.2 0, 40, .inl f18)), (q9, .inr (5, [w15, .ref q17]))] H := hP
  have hD : va_D A [(q10, .inl (g.2 0, 60, .inl f11)), (q1, .inr (8, [.ref q9, w3, .ref q10, w5, .int 1, w7, w8])), (q17, .inl (g.2 0, 40, .inl f18)), (q9, .inr (5, [w15, .ref q17]))] := hD
  refine lv_sipush (v := 20000) hx hb dX6_hasFittingClips_17 (by decide) ?_
  refine lv_icmp_le (tgt := 25) hx hb dX6_hasFittingClips_20 (by decide) (fun _ => ?_) (fun h => absurd (by decide) h)
  refine lv_iload_n hx hb dX6_hasFittingClips_25 rfl (lv_at hl 1 rfl) ?_
  refine lv_aload_n hx hb dX6_hasFittingClips_26 rfl (lv_at hl 2 rfl) ?_
  refine lv_iload_n hx hb dX6_hasFittingClips_27 rfl (lv_at hl 0 rfl) ?_
  refine g_i (wr := []) (rV (rest := [.int 0]) hx hb hml hown hE hP hD 1 rfl rfl (c1535_X6_clipNotes l g q1 q10 q9 q17 x13 w3 w5 (.int 1) w7 w8 w15 f11 f18 (hf12) (hf14) (hf20) H.size) (kV_X6_clipNotes hE (e713 hE) rfl rfl ⟨(Nat.le_of_ble_eq_true rfl), (Nat.le_of_ble_eq_true rfl)⟩) [2, 3, 0, 1] rfl (by decide) rfl hl.1 rfl (lv_room (Nat.le_of_ble_eq_true rfl)) dX6_hasFittingClips_28 ⟨(Nat.le_of_ble_eq_true rfl), (Nat.le_of_ble_eq_true rfl)⟩) hP hD hS hA [2, 3, 0, 1] [] rfl rfl (by decide) (by decide) (fun u2 H locs hP hD hS => ?_)
  have hP : va_P g.1 vwCl [(q10, .inl (g.2 0, 60, .inl f11)), (q1, .inr (8, [.ref q9, w3, .ref q10, w5, .int 1, w7, w8])), (q17, .inl (g.2 0, 40, .inl f18)), (q9, .inr (5, [w15, .ref q17]))] H := hP
  have hD : va_D A [(q10, .inl (g.2 0, 60, .inl f11)), (q1, .inr (8, [.ref q9, w3, .ref q10, w5, .int 1, w7, w8])), (q17, .inl (g.2 0, 40, .inl f18)), (q9, .inr (5, [w15, .ref q17]))] := hD
  refine x_iadd (v := 0) hx hb dX6_hasFittingClips_31 (by decide) ?_
  refine lv_istore_n (lv' := [(1, .int 0), (2, .int 0), (0, .ref q1)]) hx hb dX6_hasFittingClips_32 rfl hl (by decide) rfl (fun ls hl => ?_)
  refine lv_iinc (v := 1) (lv' := [(2, .int 1), (1, .int 0), (0, .ref q1)]) hx hb dX6_hasFittingClips_33 hl (k := 1) rfl (by decide) (by decide) rfl (fun ls hl => ?_)
  refine lv_goto (tgt := 4) hx hb dX6_hasFittingClips_36 (by decide) ?_
  refine lv_iload_n hx hb dX6_hasFittingClips_4 rfl (lv_at hl 0 rfl) ?_
  refine lv_aload_n hx hb dX6_hasFittingClips_5 rfl (lv_at hl 2 rfl) ?_
  refine gf_RX6_37 hx hb hown hE hP 1 rfl rfl dX6_hasFittingClips_6 ?_
  refine lv_icmp_ge (tgt := 39) hx hb dX6_hasFittingClips_9 (by decide) (fun _ => ?_) (fun h => absurd (by decide) h)
  refine lv_iload_n hx hb dX6_hasFittingClips_39 rfl (lv_at hl 1 rfl) ?_
  refine lv_sipush (v := 300) hx hb dX6_hasFittingClips_40 (by decide) ?_
  refine lv_icmp_gt (tgt := 50) hx hb dX6_hasFittingClips_43 (by decide) (fun h => absurd h (by decide)) (fun _ => ?_)
  refine lv_iconst (v := 1) hx hb dX6_hasFittingClips_46 (by decide) ?_
  refine lv_goto (tgt := 51) hx hb dX6_hasFittingClips_47 (by decide) ?_
  exact x_zret hx hb hr rfl rfl hlocks hP hD hS hAe hsz (Nat.le_of_ble_eq_true rfl) (Nat.le_of_ble_eq_true rfl) (fun _ => 0) [0, 1, 2, 3] (by decide) rfl dX6_hasFittingClips_51

set_option maxHeartbeats 4000000 in
set_option maxRecDepth 100000 in
theorem c1537_X9_acceptIfFitting (l : Launch) (g : gG) (q1 q2 q10 q13 q14 q47 q63 : Nat) (x50 : Int32) (w4 w6 w8 w9 w53 w54 w55 w56 w57 w58 w59 w60 w61 w62 w64 : Value) (f15 : Nat → Int32) (f48 : Nat → Int32) (hf16 : f15 0 = 0) (hf17 : f15 2 = 0) (hf18 : f15 3 = 0) (hf19 : f15 5 = 0) (hf20 : f15 6 = 0) (hf21 : f15 7 = 0) (hf22 : f15 8 = 0) (hf23 : f15 10 = 0) (hf24 : f15 11 = 0) (hf25 : f15 12 = 0) (hf26 : f15 13 = 0) (hf27 : f15 15 = 0) (hf28 : f15 16 = 0) (hf29 : f15 17 = 0) (hf30 : f15 18 = 0) (hf31 : f15 20 = 0) (hf32 : f15 21 = 0) (hf33 : f15 22 = 0) (hf34 : f15 23 = 0) (hf35 : f15 25 = 0) (hf36 : f15 26 = 0) (hf37 : f15 27 = 0) (hf38 : f15 28 = 0) (hf39 : f15 30 = 0) (hf40 : f15 31 = 0) (hf41 : f15 32 = 0) (hf42 : f15 33 = 0) (hf43 : f15 35 = 0) (hf44 : f15 36 = 0) (hf45 : f15 37 = 0) (hf46 : f15 38 = 0) (hf49 : f48 2 = x50) (hf51 : f48 1 = 3) (sz : Nat) : Met l yX9_acceptIfFitting [Cond.code yX9_acceptIfFitting cX9_acceptIfFitting 2 none] ({ frames := 3, cells := 0, slots := 0, locals := 73 } : Room) (va_Pc [.ref q1, .ref q2] (PX g sz [(q63, .inr (10, [w64, .int 0, .int 0])), (q1, .inr (11, [.ref q63, w53, w54, w55, w56, w57, w58, w59, w60, w61, w62])), (q47, .inl (g.2 0, 60, .inl f48)), (q14, .inl (g.2 0, 40, .inl f15)), (q10, .inr (5, [.ref q13, .ref q14])), (q2, .inr (8, [.ref q10, w4, .ref q47, w6, .int 1, w8, w9]))])) (QV g [(q63, .inr (10, [w64, .int 0, .int 0])), (q1, .inr (11, [.ref q63, w53, w54, w55, w56, w57, w58, w59, w60, w61, w62])), (q47, .inl (g.2 0, 60, .inl f48)), (q14, .inl (g.2 0, 40, .inl f15)), (q10, .inr (5, [.ref q13, .ref q14])), (q2, .inr (8, [.ref q10, w4, .ref q47, w6, .int 1, w8, w9]))] sz (fun _ => [(q47, .inl (g.2 0, 60, .inl f48)), (q2, .inr (8, [.ref q10, w4, .ref q47, w6, .int 1, w8, w9])), (q14, .inl (g.2 0, 40, .inl (upd (upd (upd (upd (upd (upd (upd (upd (upd f15 1 0) 4 1) 9 1) 14 1) 19 1) 24 1) 29 1) 34 1) 39 1))), (q10, .inr (5, [.ref q13, .ref q14])), (q63, .inr (10, [w64, .int 1, .int 1])), (q1, .inr (11, [.ref q63, w53, w54, w55, w56, w57, w58, w59, .int 0, .int 0, w62]))])) 0 0 (va_A [(q63, .inr (10, [w64, .int 0, .int 0])), (q1, .inr (11, [.ref q63, w53, w54, w55, w56, w57, w58, w59, w60, w61, w62])), (q47, .inl (g.2 0, 60, .inl f48)), (q14, .inl (g.2 0, 40, .inl f15)), (q10, .inr (5, [.ref q13, .ref q14])), (q2, .inr (8, [.ref q10, w4, .ref q47, w6, .int 1, w8, w9]))] sz) := by
  refine ofN (by decide) (Nat.le_of_ble_eq_true rfl) rfl ?_
  intro p e s m args below meth c A ls hAe hsz hx hb hml hr hlocks hin hown hE hP hD hA hS hl
  have hown : s.vm.findClass RX9 = some m.cls := hown
  refine lv_aload_n hx hb dX9_acceptIfFitting_0 rfl (lv_at hl 1 rfl) ?_
  refine gf_RX9_108 hx hb hown hE hP 5 rfl rfl dX9_acceptIfFitting_1 ?_
  refine g_i (wr := [(q63, .inr (10, [w64, .int 0, .int 0])), (q1, .inr (11, [.ref q63, w53, w54, w55, w56, w57, w58, w59, w60, w61, w62])), (q47, .inl (g.2 0, 60, .inl f48)), (q2, .inr (8, [.ref q10, w4, .ref q47, w6, .int 1, w8, w9]))]) (rV (rest := []) hx hb hml hown hE hP hD 4 rfl rfl (c1502_X3_measure l g q10 q13 q14 f15 (hf16) (hf17) (hf18) (hf19) (hf20) (hf21) (hf22) (hf23) (hf24) (hf25) (hf26) (hf27) (hf28) (hf29) (hf30) (hf31) (hf32) (hf33) (hf34) (hf35) (hf36) (hf37) (hf38) (hf39) (hf40) (hf41) (hf42) (hf43) (hf44) (hf45) (hf46) s.heap.size) (kV_X3_measure hE (e694 hE) rfl rfl ⟨(Nat.le_of_ble_eq_true rfl), (Nat.le_of_ble_eq_true rfl)⟩) [3, 4] rfl (by decide) rfl hl.1 rfl (lv_room (Nat.le_of_ble_eq_true rfl)) dX9_acceptIfFitting_4 ⟨(Nat.le_of_ble_eq_true rfl), (Nat.le_of_ble_eq_true rfl)⟩) hP hD hS hA [3, 4] [0, 1, 2, 5] rfl rfl (by decide) (by decide) (fun u1 H locs hP hD hS => ?_)
  have hP : va_P g.1 vwCl [(q63, .inr (10, [w64, .int 0, .int 0])), (q1, .inr (11, [.ref q63, w53, w54, w55, w56, w57, w58, w59, w60, w61, w62])), (q47, .inl (g.2 0, 60, .inl f48)), (q2, .inr (8, [.ref q10, w4, .ref q47, w6, .int 1, w8, w9])), (q14, .inl (g.2 0, 40, .inl (upd (upd (upd (upd (upd (upd (upd (upd (upd f15 1 0) 4 1) 9 1) 14 1) 19 1) 24 1) 29 1) 34 1) 39 1))), (q10, .inr (5, [.ref q13, .ref q14]))] H := hP
  have hD : va_D A [(q63, .inr (10, [w64, .int 0, .int 0])), (q1, .inr (11, [.ref q63, w53, w54, w55, w56, w57, w58, w59, w60, w61, w62])), (q47, .inl (g.2 0, 60, .inl f48)), (q2, .inr (8, [.ref q10, w4, .ref q47, w6, .int 1, w8, w9])), (q14, .inl (g.2 0, 40, .inl (upd (upd (upd (upd (upd (upd (upd (upd (upd f15 1 0) 4 1) 9 1) 14 1) 19 1) 24 1) 29 1) 34 1) 39 1))), (q10, .inr (5, [.ref q13, .ref q14]))] := hD
  refine lv_if_eq (tgt := 17) hx hb dX9_acceptIfFitting_7 (by decide) (fun h => absurd h (by decide)) (fun _ => ?_)
  refine lv_aload_n hx hb dX9_acceptIfFitting_10 rfl (lv_at hl 1 rfl) ?_
  refine g_i (wr := [(q63, .inr (10, [w64, .int 0, .int 0])), (q1, .inr (11, [.ref q63, w53, w54, w55, w56, w57, w58, w59, w60, w61, w62]))]) (rV (rest := []) hx hb hml hown hE hP hD 3 rfl rfl (c1536_X6_hasFittingClips l g q2 q10 q47 q14 x50 w4 w6 w8 w9 (.ref q13) f48 (upd (upd (upd (upd (upd (upd (upd (upd (upd f15 1 0) 4 1) 9 1) 14 1) 19 1) 24 1) 29 1) 34 1) 39 1) (hf49) (hf51) (((pk_un (by decide)).trans ((pk_un (by decide)).trans ((pk_un (by decide)).trans ((pk_un (by decide)).trans ((pk_un (by decide)).trans ((pk_un (by decide)).trans ((pk_un (by decide)).trans ((pk_un (by decide)).trans ((pk_un (by decide)).trans hf28)))))))))) (((pk_un (by decide)).trans ((pk_un (by decide)).trans ((pk_un (by decide)).trans ((pk_un (by decide)).trans ((pk_un (by decide)).trans ((pk_un (by decide)).trans ((pk_un (by decide)).trans ((pk_un (by decide)).trans ((pk_un (by decide)).trans hf29)))))))))) H.size) (kV_X6_hasFittingClips hE (e703 hE) rfl rfl ⟨(Nat.le_of_ble_eq_true rfl), (Nat.le_of_ble_eq_true rfl)⟩) [4, 5, 2, 3] rfl (by decide) rfl hl.1 rfl (lv_room (Nat.le_of_ble_eq_true rfl)) dX9_acceptIfFitting_11 ⟨(Nat.le_of_ble_eq_true rfl), (Nat.le_of_ble_eq_true rfl)⟩) hP hD hS hA [4, 5, 2, 3] [0, 1] rfl rfl (by decide) (by decide) (fun u2 H locs hP hD hS => ?_)
  have hP : va_P g.1 vwCl [(q63, .inr (10, [w64, .int 0, .int 0])), (q1, .inr (11, [.ref q63, w53, w54, w55, w56, w57, w58, w59, w60, w61, w62])), (q47, .inl (g.2 0, 60, .inl f48)), (q2, .inr (8, [.ref q10, w4, .ref q47, w6, .int 1, w8, w9])), (q14, .inl (g.2 0, 40, .inl (upd (upd (upd (upd (upd (upd (upd (upd (upd f15 1 0) 4 1) 9 1) 14 1) 19 1) 24 1) 29 1) 34 1) 39 1))), (q10, .inr (5, [.ref q13, .ref q14]))] H := hP
  have hD : va_D A [(q63, .inr (10, [w64, .int 0, .int 0])), (q1, .inr (11, [.ref q63, w53, w54, w55, w56, w57, w58, w59, w60, w61, w62])), (q47, .inl (g.2 0, 60, .inl f48)), (q2, .inr (8, [.ref q10, w4, .ref q47, w6, .int 1, w8, w9])), (q14, .inl (g.2 0, 40, .inl (upd (upd (upd (upd (upd (upd (upd (upd (upd f15 1 0) 4 1) 9 1) 14 1) 19 1) 24 1) 29 1) 34 1) 39 1))), (q10, .inr (5, [.ref q13, .ref q14]))] := hD
  refine lv_if_ne (tgt := 28) hx hb dX9_acceptIfFitting_14 (by decide) (fun _ => ?_) (fun h => absurd h (by decide))
  refine lv_aload_n hx hb dX9_acceptIfFitting_28 rfl (lv_at hl 0 rfl) ?_
  refine g_v (wr := [(q47, .inl (g.2 0, 60, .inl f48)), (q2, .inr (8, [.ref q10, w4, .ref q47, w6, .int 1, w8, w9])), (q14, .inl (g.2 0, 40, .inl (upd (upd (upd (upd (upd (upd (upd (upd (upd f15 1 0) 4 1) 9 1) 14 1) 19 1) 24 1) 29 1) 34 1) 39 1))), (q10, .inr (5, [.ref q13, .ref q14]))]) (rV (rest := []) hx hb hml hown hE hP hD 1 rfl rfl (c191_X9_accept l g q1 q63 w53 w54 w55 w56 w57 w58 w59 w60 w61 w62 w64 H.size) (kV_X9_accept hE (e718 hE) rfl rfl ⟨(Nat.le_of_ble_eq_true rfl), (Nat.le_of_ble_eq_true rfl)⟩) [0, 1] rfl (by decide) rfl hl.1 rfl (lv_room (Nat.le_of_ble_eq_true rfl)) dX9_acceptIfFitting_29 ⟨(Nat.le_of_ble_eq_true rfl), (Nat.le_of_ble_eq_true rfl)⟩) hP hD hS hA [0, 1] [2, 3, 4, 5] rfl rfl (by decide) (by decide) (fun u3 H locs hP hD hS => ?_)
  have hP : va_P g.1 vwCl [(q47, .inl (g.2 0, 60, .inl f48)), (q2, .inr (8, [.ref q10, w4, .ref q47, w6, .int 1, w8, w9])), (q14, .inl (g.2 0, 40, .inl (upd (upd (upd (upd (upd (upd (upd (upd (upd f15 1 0) 4 1) 9 1) 14 1) 19 1) 24 1) 29 1) 34 1) 39 1))), (q10, .inr (5, [.ref q13, .ref q14])), (q63, .inr (10, [w64, .int 1, .int 1])), (q1, .inr (11, [.ref q63, w53, w54, w55, w56, w57, w58, w59, .int 0, .int 0, w62]))] H := hP
  have hD : va_D A [(q47, .inl (g.2 0, 60, .inl f48)), (q2, .inr (8, [.ref q10, w4, .ref q47, w6, .int 1, w8, w9])), (q14, .inl (g.2 0, 40, .inl (upd (upd (upd (upd (upd (upd (upd (upd (upd f15 1 0) 4 1) 9 1) 14 1) 19 1) 24 1) 29 1) 34 1) 39 1))), (q10, .inr (5, [.ref q13, .ref q14])), (q63, .inr (10, [w64, .int 1, .int 1])), (q1, .inr (11, [.ref q63, w53, w54, w55, w56, w57, w58, w59, .int 0, .int 0, w62]))] := hD
  exact x_vret hx hb hr hlocks hP hD hS hAe hsz (Nat.le_of_ble_eq_true rfl) (Nat.le_of_ble_eq_true rfl) (fun _ => 0) [0, 1, 2, 3, 4, 5] (by decide) rfl dX9_acceptIfFitting_32

set_option maxHeartbeats 4000000 in
set_option maxRecDepth 100000 in
theorem c1538_X9_addClip (l : Launch) (g : gG) (q1 q25 q29 q32 q34 q42 q43 q44 q45 q53 q54 q55 q56 q59 q60 q63 q64 q71 q72 q77 q78 : Nat) (x2 x3 x4 x5 : Int32) (w15 w16 w17 w18 w19 w20 w21 w22 w23 w24 w39 w40 w41 w75 w76 : Value) (f30 : Nat → Option Nat) (f65 : Nat → Int32) (f66 : Nat → Int32) (f79 : Nat → Int32) (f80 : Nat → Int32) (hf31 : f30 1 = some q32) (hf33 : f30 0 = some q34) (hf81 : f66 0 = 0) (hf82 : f66 2 = 0) (hf83 : f66 3 = 0) (hf84 : f66 5 = 0) (hf85 : f66 6 = 0) (hf86 : f66 7 = 0) (hf87 : f66 8 = 0) (hf88 : f66 10 = 0) (hf89 : f66 11 = 0) (hf90 : f66 12 = 0) (hf91 : f66 13 = 0) (hf92 : f66 15 = 0) (hf93 : f66 16 = 0) (hf94 : f66 17 = 0) (hf95 : f66 18 = 0) (hf96 : f66 20 = 0) (hf97 : f66 21 = 0) (hf98 : f66 22 = 0) (hf99 : f66 23 = 0) (hf100 : f66 25 = 0) (hf101 : f66 26 = 0) (hf102 : f66 27 = 0) (hf103 : f66 28 = 0) (hf104 : f66 30 = 0) (hf105 : f66 31 = 0) (hf106 : f66 32 = 0) (hf107 : f66 33 = 0) (hf108 : f66 35 = 0) (hf109 : f66 36 = 0) (hf110 : f66 37 = 0) (hf111 : f66 38 = 0) (h6 : (0 : Int32) ≤ x2) (h7 : x2 ≤ 9999) (h8 : (1 : Int32) ≤ x3) (h9 : x3 ≤ 9) (h10 : ((-50) : Int32) ≤ x4) (h11 : x4 ≤ 50) (h12 : (0 : Int32) ≤ x5) (h13 : x5 ≤ 3) (sz : Nat) : Met l yX9_addClip [Cond.code yX9_addClip cX9_addClip 7 (some .int)] ({ frames := 5, cells := 0, slots := 0, locals := 148 } : Room) (va_Pc [.ref q1, .int x2, .int 3, .int x3, .int x4, .int x5] (PX g sz [(q45, .inl (g.2 0, 20, .inl f80)), (q56, .inl (g.2 0, 20, .inl f80)), (q44, .inl (g.2 0, 60, .inl f65)), (q55, .inl (g.2 0, 60, .inl f65)), (q78, .inl (g.2 0, 10, .inl f79)), (q72, .inl (g.2 0, 10, .inl f79)), (q77, .inl (g.2 0, 10, .inl f65)), (q71, .inl (g.2 0, 10, .inl f65)), (q43, .inr (9, [.ref q77, .ref q78, w75, w76])), (q54, .inr (9, [.ref q71, .ref q72, .int 1, .int 0])), (q64, .inl (g.2 0, 40, .inl f66)), (q60, .inl (g.2 0, 40, .inl f66)), (q63, .inl (g.2 0, 384, .inl f65)), (q59, .inl (g.2 0, 384, .inl f65)), (q42, .inr (5, [.ref q63, .ref q64])), (q53, .inr (5, [.ref q59, .ref q60])), (q34, .inr (8, [.ref q53, .ref q54, .ref q55, .ref q56, .int 0, .int 4, .int 0])), (q32, .inr (8, [.ref q42, .ref q43, .ref q44, .ref q45, w39, w40, w41])), (q29, .inl (g.2 3, 10, .inr (.inr (.inr (.inr f30))))), (q25, .inr (10, [.ref q29, .int 0, .int 0])), (q1, .inr (11, [.ref q25, w15, w16, w17, w18, w19, w20, w21, w22, w23, w24]))])) (QI g [(q45, .inl (g.2 0, 20, .inl f80)), (q56, .inl (g.2 0, 20, .inl f80)), (q44, .inl (g.2 0, 60, .inl f65)), (q55, .inl (g.2 0, 60, .inl f65)), (q78, .inl (g.2 0, 10, .inl f79)), (q72, .inl (g.2 0, 10, .inl f79)), (q77, .inl (g.2 0, 10, .inl f65)), (q71, .inl (g.2 0, 10, .inl f65)), (q43, .inr (9, [.ref q77, .ref q78, w75, w76])), (q54, .inr (9, [.ref q71, .ref q72, .int 1, .int 0])), (q64, .inl (g.2 0, 40, .inl f66)), (q60, .inl (g.2 0, 40, .inl f66)), (q63, .inl (g.2 0, 384, .inl f65)), (q59, .inl (g.2 0, 384, .inl f65)), (q42, .inr (5, [.ref q63, .ref q64])), (q53, .inr (5, [.ref q59, .ref q60])), (q34, .inr (8, [.ref q53, .ref q54, .ref q55, .ref q56, .int 0, .int 4, .int 0])), (q32, .inr (8, [.ref q42, .ref q43, .ref q44, .ref q45, w39, w40, w41])), (q29, .inl (g.2 3, 10, .inr (.inr (.inr (.inr f30))))), (q25, .inr (10, [.ref q29, .int 0, .int 0])), (q1, .inr (11, [.ref q25, w15, w16, w17, w18, w19, w20, w21, w22, w23, w24]))] sz 0 (fun _ => [(q29, .inl (g.2 3, 10, .inr (.inr (.inr (.inr f30))))), (q34, .inr (8, [.ref q53, .ref q54, .ref q55, .ref q56, .int 0, .int 4, .int 0])), (q53, .inr (5, [.ref q59, .ref q60])), (q63, .inl (g.2 0, 384, .inl f65)), (q59, .inl (g.2 0, 384, .inl f65)), (q60, .inl (g.2 0, 40, .inl f66)), (q43, .inr (9, [.ref q77, .ref q78, .int 1, .int 0])), (q54, .inr (9, [.ref q71, .ref q72, .int 1, .int 0])), (q77, .inl (g.2 0, 10, .inl f65)), (q71, .inl (g.2 0, 10, .inl f65)), (q78, .inl (g.2 0, 10, .inl f79)), (q72, .inl (g.2 0, 10, .inl f79)), (q55, .inl (g.2 0, 60, .inl f65)), (q45, .inl (g.2 0, 20, .inl f80)), (q56, .inl (g.2 0, 20, .inl f80)), (q44, .inl (g.2 0, 60, .inl (upd (upd (upd (upd (upd f65 0 x2) 1 3) 2 x3) 3 x4) 4 x5))), (q64, .inl (g.2 0, 40, .inl (upd (upd (upd (upd (upd (upd (upd (upd (upd f66 1 0) 4 1) 9 1) 14 1) 19 1) 24 1) 29 1) 34 1) 39 1))), (q42, .inr (5, [.ref q63, .ref q64])), (q25, .inr (10, [.ref q29, .int 1, .int 1])), (q1, .inr (11, [.ref q25, w15, w16, w17, w18, w19, w20, w21, .int 0, .int 0, w24])), (q32, .inr (8, [.ref q42, .ref q43, .ref q44, .ref q45, .int 1, .int 4, .int 0]))])) 0 0 (va_A [(q45, .inl (g.2 0, 20, .inl f80)), (q56, .inl (g.2 0, 20, .inl f80)), (q44, .inl (g.2 0, 60, .inl f65)), (q55, .inl (g.2 0, 60, .inl f65)), (q78, .inl (g.2 0, 10, .inl f79)), (q72, .inl (g.2 0, 10, .inl f79)), (q77, .inl (g.2 0, 10, .inl f65)), (q71, .inl (g.2 0, 10, .inl f65)), (q43, .inr (9, [.ref q77, .ref q78, w75, w76])), (q54, .inr (9, [.ref q71, .ref q72, .int 1, .int 0])), (q64, .inl (g.2 0, 40, .inl f66)), (q60, .inl (g.2 0, 40, .inl f66)), (q63, .inl (g.2 0, 384, .inl f65)), (q59, .inl (g.2 0, 384, .inl f65)), (q42, .inr (5, [.ref q63, .ref q64])), (q53, .inr (5, [.ref q59, .ref q60])), (q34, .inr (8, [.ref q53, .ref q54, .ref q55, .ref q56, .int 0, .int 4, .int 0])), (q32, .inr (8, [.ref q42, .ref q43, .ref q44, .ref q45, w39, w40, w41])), (q29, .inl (g.2 3, 10, .inr (.inr (.inr (.inr f30))))), (q25, .inr (10, [.ref q29, .int 0, .int 0])), (q1, .inr (11, [.ref q25, w15, w16, w17, w18, w19, w20, w21, w22, w23, w24]))] sz) := by
  refine ofN (by decide) (Nat.le_of_ble_eq_true rfl) rfl ?_
  intro p e s m args below meth c A ls hAe hsz hx hb hml hr hlocks hin hown hE hP hD hA hS hl
  have hown : s.vm.findClass RX9 = some m.cls := hown
  refine lv_iload_n hx hb dX9_addClip_0 rfl (lv_at hl 1 rfl) ?_
  refine lv_iconst (v := 0) hx hb dX9_addClip_1 (by decide) ?_
  refine lv_sipush (v := 9999) hx hb dX9_addClip_2 (by decide) ?_
  refine g0_v (rS (rest := []) hx hb hml hown hE hP hD (c1477_X9_requireRange l g x2 h6 h7 s.heap.size) (kS_X9_requireRange hE (e636 hE) rfl rfl ⟨(Nat.le_of_ble_eq_true rfl), (Nat.le_of_ble_eq_true rfl)⟩) [] rfl (by decide) rfl hl.1 rfl (lv_room (Nat.le_of_ble_eq_true rfl)) dX9_addClip_5 ⟨(Nat.le_of_ble_eq_true rfl), (Nat.le_of_ble_eq_true rfl)⟩) hP hD hS hA (fun u9 H locs hP hS => ?_)
  refine lv_iload_n hx hb dX9_addClip_8 rfl (lv_at hl 2 rfl) ?_
  refine lv_iconst (v := 0) hx hb dX9_addClip_9 (by decide) ?_
  refine lv_bipush (v := 7) hx hb dX9_addClip_10 (by decide) ?_
  refine g0_v (rS (rest := []) hx hb hml hown hE hP hD (c1482_X9_requireRange l g 3 (by decide) (by decide) H.size) (kS_X9_requireRange hE (e636 hE) rfl rfl ⟨(Nat.le_of_ble_eq_true rfl), (Nat.le_of_ble_eq_true rfl)⟩) [] rfl (by decide) rfl hl.1 rfl (lv_room (Nat.le_of_ble_eq_true rfl)) dX9_addClip_12 ⟨(Nat.le_of_ble_eq_true rfl), (Nat.le_of_ble_eq_true rfl)⟩) hP hD hS hA (fun u9 H locs hP hS => ?_)
  refine lv_iload_n hx hb dX9_addClip_15 rfl (lv_at hl 3 rfl) ?_
  refine lv_iconst (v := 1) hx hb dX9_addClip_16 (by decide) ?_
  refine lv_bipush (v := 9) hx hb dX9_addClip_17 (by decide) ?_
  refine g0_v (rS (rest := []) hx hb hml hown hE hP hD (c117_X9_requireRange l g x3 h8 h9 H.size) (kS_X9_requireRange hE (e636 hE) rfl rfl ⟨(Nat.le_of_ble_eq_true rfl), (Nat.le_of_ble_eq_true rfl)⟩) [] rfl (by decide) rfl hl.1 rfl (lv_room (Nat.le_of_ble_eq_true rfl)) dX9_addClip_19 ⟨(Nat.le_of_ble_eq_true rfl), (Nat.le_of_ble_eq_true rfl)⟩) hP hD hS hA (fun u9 H locs hP hS => ?_)
  refine lv_iload hx hb dX9_addClip_22 (lv_at hl 4 rfl) ?_
  refine lv_bipush (v := (-50)) hx hb dX9_addClip_24 (by decide) ?_
  refine lv_bipush (v := 50) hx hb dX9_addClip_26 (by decide) ?_
  refine g0_v (rS (rest := []) hx hb hml hown hE hP hD (c1491_X9_requireRange l g x4 h10 h11 H.size) (kS_X9_requireRange hE (e636 hE) rfl rfl ⟨(Nat.le_of_ble_eq_true rfl), (Nat.le_of_ble_eq_true rfl)⟩) [] rfl (by decide) rfl hl.1 rfl (lv_room (Nat.le_of_ble_eq_true rfl)) dX9_addClip_28 ⟨(Nat.le_of_ble_eq_true rfl), (Nat.le_of_ble_eq_true rfl)⟩) hP hD hS hA (fun u9 H locs hP hS => ?_)
  refine lv_iload hx hb dX9_addClip_31 (lv_at hl 5 rfl) ?_
  refine lv_iconst (v := 0) hx hb dX9_addClip_33 (by decide) ?_
  refine lv_iconst (v := 3) hx hb dX9_addClip_34 (by decide) ?_
  refine g0_v (rS (rest := []) hx hb hml hown hE hP hD (c815_X9_requireRange l g x5 h12 h13 H.size) (kS_X9_requireRange hE (e636 hE) rfl rfl ⟨(Nat.le_of_ble_eq_true rfl), (Nat.le_of_ble_eq_true rfl)⟩) [] rfl (by decide) rfl hl.1 rfl (lv_room (Nat.le_of_ble_eq_true rfl)) dX9_addClip_35 ⟨(Nat.le_of_ble_eq_true rfl), (Nat.le_of_ble_eq_true rfl)⟩) hP hD hS hA (fun u9 H locs hP hS => ?_)
  refine lv_aload_n hx hb dX9_addClip_38 rfl (lv_at hl 0 rfl) ?_
  refine gf_RX9_12 hx hb hown hE hP 20 rfl rfl dX9_addClip_39 ?_
  refine g_r (wr := [(q1, .inr (11, [.ref q25, w15, w16, w17, w18, w19, w20, w21, w22, w23, w24]))]) (rV (rest := []) hx hb hml hown hE hP hD 19 rfl rfl (c127_X8_draft l g q25 q29 q32 q34 q42 q53 q59 q63 q60 q64 q43 q54 q71 q77 q72 q78 q55 q44 q56 q45 (.int 0) w39 w40 w41 w75 w76 f30 f65 f66 f79 f80 (hf31) (hf33) H.size) (kV_X8_draft hE (e659 hE) rfl rfl ⟨(Nat.le_of_ble_eq_true rfl), (Nat.le_of_ble_eq_true rfl)⟩) [0, 1, 2, 3, 4, 5, 6, 7, 8, 9, 10, 11, 12, 13, 14, 15, 16, 17, 18, 19] rfl (by decide) rfl hl.1 rfl (lv_room (Nat.le_of_ble_eq_true rfl)) dX9_addClip_42 ⟨(Nat.le_of_ble_eq_true rfl), (Nat.le_of_ble_eq_true rfl)⟩) hP hD hS hA [0, 1, 2, 3, 4, 5, 6, 7, 8, 9, 10, 11, 12, 13, 14, 15, 16, 17, 18, 19] [20] rfl rfl (by decide) (by decide) (fun u6 H locs hP hD hS => ?_)
  have hP : va_P g.1 vwCl [(q1, .inr (11, [.ref q25, w15, w16, w17, w18, w19, w20, w21, w22, w23, w24])), (q29, .inl (g.2 3, 10, .inr (.inr (.inr (.inr f30))))), (q25, .inr (10, [.ref q29, .int 0, .int 0])), (q34, .inr (8, [.ref q53, .ref q54, .ref q55, .ref q56, .int 0, .int 4, .int 0])), (q32, .inr (8, [.ref q42, .ref q43, .ref q44, .ref q45, .int 0, .int 4, .int 0])), (q42, .inr (5, [.ref q63, .ref q64])), (q53, .inr (5, [.ref q59, .ref q60])), (q63, .inl (g.2 0, 384, .inl f65)), (q59, .inl (g.2 0, 384, .inl f65)), (q64, .inl (g.2 0, 40, .inl f66)), (q60, .inl (g.2 0, 40, .inl f66)), (q43, .inr (9, [.ref q77, .ref q78, .int 1, .int 0])), (q54, .inr (9, [.ref q71, .ref q72, .int 1, .int 0])), (q77, .inl (g.2 0, 10, .inl f65)), (q71, .inl (g.2 0, 10, .inl f65)), (q78, .inl (g.2 0, 10, .inl f79)), (q72, .inl (g.2 0, 10, .inl f79)), (q44, .inl (g.2 0, 60, .inl f65)), (q55, .inl (g.2 0, 60, .inl f65)), (q45, .inl (g.2 0, 20, .inl f80)), (q56, .inl (g.2 0, 20, .inl f80))] H := hP
  have hD : va_D A [(q1, .inr (11, [.ref q25, w15, w16, w17, w18, w19, w20, w21, w22, w23, w24])), (q29, .inl (g.2 3, 10, .inr (.inr (.inr (.inr f30))))), (q25, .inr (10, [.ref q29, .int 0, .int 0])), (q34, .inr (8, [.ref q53, .ref q54, .ref q55, .ref q56, .int 0, .int 4, .int 0])), (q32, .inr (8, [.ref q42, .ref q43, .ref q44, .ref q45, .int 0, .int 4, .int 0])), (q42, .inr (5, [.ref q63, .ref q64])), (q53, .inr (5, [.ref q59, .ref q60])), (q63, .inl (g.2 0, 384, .inl f65)), (q59, .inl (g.2 0, 384, .inl f65)), (q64, .inl (g.2 0, 40, .inl f66)), (q60, .inl (g.2 0, 40, .inl f66)), (q43, .inr (9, [.ref q77, .ref q78, .int 1, .int 0])), (q54, .inr (9, [.ref q71, .ref q72, .int 1, .int 0])), (q77, .inl (g.2 0, 10, .inl f65)), (q71, .inl (g.2 0, 10, .inl f65)), (q78, .inl (g.2 0, 10, .inl f79)), (q72, .inl (g.2 0, 10, .inl f79)), (q44, .inl (g.2 0, 60, .inl f65)), (q55, .inl (g.2 0, 60, .inl f65)), (q45, .inl (g.2 0, 20, .inl f80)), (q56, .inl (g.2 0, 20, .inl f80))] := hD
  refine lv_astore (lv' := [(6, .ref q32), (0, .ref q1), (1, .int x2), (2, .int 3), (3, .int x3), (4, .int x4), (5, .int x5)]) hx hb dX9_addClip_45 hl (by decide) rfl (fun ls hl => ?_)
  refine lv_aload hx hb dX9_addClip_47 (lv_at hl 0 rfl) ?_
  refine g_i (wr := [(q1, .inr (11, [.ref q25, w15, w16, w17, w18, w19, w20, w21, w22, w23, w24])), (q29, .inl (g.2 3, 10, .inr (.inr (.inr (.inr f30))))), (q25, .inr (10, [.ref q29, .int 0, .int 0])), (q34, .inr (8, [.ref q53, .ref q54, .ref q55, .ref q56, .int 0, .int 4, .int 0])), (q42, .inr (5, [.ref q63, .ref q64])), (q53, .inr (5, [.ref q59, .ref q60])), (q63, .inl (g.2 0, 384, .inl f65)), (q59, .inl (g.2 0, 384, .inl f65)), (q64, .inl (g.2 0, 40, .inl f66)), (q60, .inl (g.2 0, 40, .inl f66)), (q43, .inr (9, [.ref q77, .ref q78, .int 1, .int 0])), (q54, .inr (9, [.ref q71, .ref q72, .int 1, .int 0])), (q77, .inl (g.2 0, 10, .inl f65)), (q71, .inl (g.2 0, 10, .inl f65)), (q78, .inl (g.2 0, 10, .inl f79)), (q72, .inl (g.2 0, 10, .inl f79)), (q44, .inl (g.2 0, 60, .inl f65)), (q55, .inl (g.2 0, 60, .inl f65)), (q45, .inl (g.2 0, 20, .inl f80)), (q56, .inl (g.2 0, 20, .inl f80))]) (rV (rest := []) hx hb hml hown hE hP hD 4 rfl rfl (c72_X6_clipCount l g q32 (.ref q42) (.ref q43) (.ref q44) (.ref q45) (.int 4) (.int 0) H.size) (kV_X6_clipCount hE (e297 hE) rfl rfl ⟨(Nat.le_of_ble_eq_true rfl), (Nat.le_of_ble_eq_true rfl)⟩) [4] rfl (by decide) rfl hl.1 rfl (lv_room (Nat.le_of_ble_eq_true rfl)) dX9_addClip_49 ⟨(Nat.le_of_ble_eq_true rfl), (Nat.le_of_ble_eq_true rfl)⟩) hP hD hS hA [4] [0, 1, 2, 3, 5, 6, 7, 8, 9, 10, 11, 12, 13, 14, 15, 16, 17, 18, 19, 20] rfl rfl (by decide) (by decide) (fun u7 H locs hP hD hS => ?_)
  have hP : va_P g.1 vwCl [(q1, .inr (11, [.ref q25, w15, w16, w17, w18, w19, w20, w21, w22, w23, w24])), (q29, .inl (g.2 3, 10, .inr (.inr (.inr (.inr f30))))), (q25, .inr (10, [.ref q29, .int 0, .int 0])), (q34, .inr (8, [.ref q53, .ref q54, .ref q55, .ref q56, .int 0, .int 4, .int 0])), (q42, .inr (5, [.ref q63, .ref q64])), (q53, .inr (5, [.ref q59, .ref q60])), (q63, .inl (g.2 0, 384, .inl f65)), (q59, .inl (g.2 0, 384, .inl f65)), (q64, .inl (g.2 0, 40, .inl f66)), (q60, .inl (g.2 0, 40, .inl f66)), (q43, .inr (9, [.ref q77, .ref q78, .int 1, .int 0])), (q54, .inr (9, [.ref q71, .ref q72, .int 1, .int 0])), (q77, .inl (g.2 0, 10, .inl f65)), (q71, .inl (g.2 0, 10, .inl f65)), (q78, .inl (g.2 0, 10, .inl f79)), (q72, .inl (g.2 0, 10, .inl f79)), (q44, .inl (g.2 0, 60, .inl f65)), (q55, .inl (g.2 0, 60, .inl f65)), (q45, .inl (g.2 0, 20, .inl f80)), (q56, .inl (g.2 0, 20, .inl f80)), (q32, .inr (8, [.ref q42, .ref q43, .ref q44, .ref q45, .int 0, .int 4, .int 0]))] H := hP
  have hD : va_D A [(q1, .inr (11, [.ref q25, w15, w16, w17, w18, w19, w20, w21, w22, w23, w24])), (q29, .inl (g.2 3, 10, .inr (.inr (.inr (.inr f30))))), (q25, .inr (10, [.ref q29, .int 0, .int 0])), (q34, .inr (8, [.ref q53, .ref q54, .ref q55, .ref q56, .int 0, .int 4, .int 0])), (q42, .inr (5, [.ref q63, .ref q64])), (q53, .inr (5, [.ref q59, .ref q60])), (q63, .inl (g.2 0, 384, .inl f65)), (q59, .inl (g.2 0, 384, .inl f65)), (q64, .inl (g.2 0, 40, .inl f66)), (q60, .inl (g.2 0, 40, .inl f66)), (q43, .inr (9, [.ref q77, .ref q78, .int 1, .int 0])), (q54, .inr (9, [.ref q71, .ref q72, .int 1, .int 0])), (q77, .inl (g.2 0, 10, .inl f65)), (q71, .inl (g.2 0, 10, .inl f65)), (q78, .inl (g.2 0, 10, .inl f79)), (q72, .inl (g.2 0, 10, .inl f79)), (q44, .inl (g.2 0, 60, .inl f65)), (q55, .inl (g.2 0, 60, .inl f65)), (q45, .inl (g.2 0, 20, .inl f80)), (q56, .inl (g.2 0, 20, .inl f80)), (q32, .inr (8, [.ref q42, .ref q43, .ref q44, .ref q45, .int 0, .int 4, .int 0]))] := hD
  refine lv_bipush (v := 12) hx hb dX9_addClip_52 (by decide) ?_
  refine lv_icmp_lt (tgt := 67) hx hb dX9_addClip_54 (by decide) (fun _ => ?_) (fun h => absurd (by decide) h)
  refine lv_aload hx hb dX9_addClip_67 (lv_at hl 0 rfl) ?_
  refine lv_iload_n hx hb dX9_addClip_69 rfl (lv_at hl 2 rfl) ?_
  refine lv_iload_n hx hb dX9_addClip_70 rfl (lv_at hl 3 rfl) ?_
  refine lv_iload_n hx hb dX9_addClip_71 rfl (lv_at hl 4 rfl) ?_
  refine lv_iload hx hb dX9_addClip_72 (lv_at hl 5 rfl) ?_
  refine lv_iload hx hb dX9_addClip_74 (lv_at hl 6 rfl) ?_
  refine g_v (wr := [(q1, .inr (11, [.ref q25, w15, w16, w17, w18, w19, w20, w21, w22, w23, w24])), (q29, .inl (g.2 3, 10, .inr (.inr (.inr (.inr f30))))), (q25, .inr (10, [.ref q29, .int 0, .int 0])), (q34, .inr (8, [.ref q53, .ref q54, .ref q55, .ref q56, .int 0, .int 4, .int 0])), (q42, .inr (5, [.ref q63, .ref q64])), (q53, .inr (5, [.ref q59, .ref q60])), (q63, .inl (g.2 0, 384, .inl f65)), (q59, .inl (g.2 0, 384, .inl f65)), (q64, .inl (g.2 0, 40, .inl f66)), (q60, .inl (g.2 0, 40, .inl f66)), (q43, .inr (9, [.ref q77, .ref q78, .int 1, .int 0])), (q54, .inr (9, [.ref q71, .ref q72, .int 1, .int 0])), (q77, .inl (g.2 0, 10, .inl f65)), (q71, .inl (g.2 0, 10, .inl f65)), (q78, .inl (g.2 0, 10, .inl f79)), (q72, .inl (g.2 0, 10, .inl f79)), (q55, .inl (g.2 0, 60, .inl f65)), (q45, .inl (g.2 0, 20, .inl f80)), (q56, .inl (g.2 0, 20, .inl f80))]) (rV (rest := []) hx hb hml hown hE hP hD 20 rfl rfl (c1501_X6_putClip l g q32 q44 x2 3 x3 x4 x5 (.ref q42) (.ref q43) (.ref q45) (.int 4) (.int 0) f65 H.size) (kV_X6_putClip hE (e808 hE) rfl rfl ⟨(Nat.le_of_ble_eq_true rfl), (Nat.le_of_ble_eq_true rfl)⟩) [16, 20] rfl (by decide) rfl hl.1 rfl (lv_room (Nat.le_of_ble_eq_true rfl)) dX9_addClip_76 ⟨(Nat.le_of_ble_eq_true rfl), (Nat.le_of_ble_eq_true rfl)⟩) hP hD hS hA [16, 20] [0, 1, 2, 3, 4, 5, 6, 7, 8, 9, 10, 11, 12, 13, 14, 15, 17, 18, 19] rfl rfl (by decide) (by decide) (fun u8 H locs hP hD hS => ?_)
  have hP : va_P g.1 vwCl [(q1, .inr (11, [.ref q25, w15, w16, w17, w18, w19, w20, w21, w22, w23, w24])), (q29, .inl (g.2 3, 10, .inr (.inr (.inr (.inr f30))))), (q25, .inr (10, [.ref q29, .int 0, .int 0])), (q34, .inr (8, [.ref q53, .ref q54, .ref q55, .ref q56, .int 0, .int 4, .int 0])), (q42, .inr (5, [.ref q63, .ref q64])), (q53, .inr (5, [.ref q59, .ref q60])), (q63, .inl (g.2 0, 384, .inl f65)), (q59, .inl (g.2 0, 384, .inl f65)), (q64, .inl (g.2 0, 40, .inl f66)), (q60, .inl (g.2 0, 40, .inl f66)), (q43, .inr (9, [.ref q77, .ref q78, .int 1, .int 0])), (q54, .inr (9, [.ref q71, .ref q72, .int 1, .int 0])), (q77, .inl (g.2 0, 10, .inl f65)), (q71, .inl (g.2 0, 10, .inl f65)), (q78, .inl (g.2 0, 10, .inl f79)), (q72, .inl (g.2 0, 10, .inl f79)), (q55, .inl (g.2 0, 60, .inl f65)), (q45, .inl (g.2 0, 20, .inl f80)), (q56, .inl (g.2 0, 20, .inl f80)), (q32, .inr (8, [.ref q42, .ref q43, .ref q44, .ref q45, .int 1, .int 4, .int 0])), (q44, .inl (g.2 0, 60, .inl (upd (upd (upd (upd (upd f65 0 x2) 1 3) 2 x3) 3 x4) 4 x5)))] H := hP
  have hD : va_D A [(q1, .inr (11, [.ref q25, w15, w16, w17, w18, w19, w20, w21, w22, w23, w24])), (q29, .inl (g.2 3, 10, .inr (.inr (.inr (.inr f30))))), (q25, .inr (10, [.ref q29, .int 0, .int 0])), (q34, .inr (8, [.ref q53, .ref q54, .ref q55, .ref q56, .int 0, .int 4, .int 0])), (q42, .inr (5, [.ref q63, .ref q64])), (q53, .inr (5, [.ref q59, .ref q60])), (q63, .inl (g.2 0, 384, .inl f65)), (q59, .inl (g.2 0, 384, .inl f65)), (q64, .inl (g.2 0, 40, .inl f66)), (q60, .inl (g.2 0, 40, .inl f66)), (q43, .inr (9, [.ref q77, .ref q78, .int 1, .int 0])), (q54, .inr (9, [.ref q71, .ref q72, .int 1, .int 0])), (q77, .inl (g.2 0, 10, .inl f65)), (q71, .inl (g.2 0, 10, .inl f65)), (q78, .inl (g.2 0, 10, .inl f79)), (q72, .inl (g.2 0, 10, .inl f79)), (q55, .inl (g.2 0, 60, .inl f65)), (q45, .inl (g.2 0, 20, .inl f80)), (q56, .inl (g.2 0, 20, .inl f80)), (q32, .inr (8, [.ref q42, .ref q43, .ref q44, .ref q45, .int 1, .int 4, .int 0])), (q44, .inl (g.2 0, 60, .inl (upd (upd (upd (upd (upd f65 0 x2) 1 3) 2 x3) 3 x4) 4 x5)))] := hD
  refine lv_aload_n hx hb dX9_addClip_79 rfl (lv_at hl 1 rfl) ?_
  refine lv_aload hx hb dX9_addClip_80 (lv_at hl 0 rfl) ?_
  refine g_v (wr := [(q29, .inl (g.2 3, 10, .inr (.inr (.inr (.inr f30))))), (q34, .inr (8, [.ref q53, .ref q54, .ref q55, .ref q56, .int 0, .int 4, .int 0])), (q53, .inr (5, [.ref q59, .ref q60])), (q63, .inl (g.2 0, 384, .inl f65)), (q59, .inl (g.2 0, 384, .inl f65)), (q60, .inl (g.2 0, 40, .inl f66)), (q43, .inr (9, [.ref q77, .ref q78, .int 1, .int 0])), (q54, .inr (9, [.ref q71, .ref q72, .int 1, .int 0])), (q77, .inl (g.2 0, 10, .inl f65)), (q71, .inl (g.2 0, 10, .inl f65)), (q78, .inl (g.2 0, 10, .inl f79)), (q72, .inl (g.2 0, 10, .inl f79)), (q55, .inl (g.2 0, 60, .inl f65)), (q45, .inl (g.2 0, 20, .inl f80)), (q56, .inl (g.2 0, 20, .inl f80))]) (rV (rest := []) hx hb hml hown hE hP hD 0 rfl rfl (c1537_X9_acceptIfFitting l g q1 q32 q42 q63 q64 q44 q25 x3 (.ref q43) (.ref q45) (.int 4) (.int 0) w15 w16 w17 w18 w19 w20 w21 w22 w23 w24 (.ref q29) f66 (upd (upd (upd (upd (upd f65 0 x2) 1 3) 2 x3) 3 x4) 4 x5) (hf81) (hf82) (hf83) (hf84) (hf85) (hf86) (hf87) (hf88) (hf89) (hf90) (hf91) (hf92) (hf93) (hf94) (hf95) (hf96) (hf97) (hf98) (hf99) (hf100) (hf101) (hf102) (hf103) (hf104) (hf105) (hf106) (hf107) (hf108) (hf109) (hf110) (hf111) (((pk_un (by decide)).trans ((pk_un (by decide)).trans pk_us))) (((pk_un (by decide)).trans ((pk_un (by decide)).trans ((pk_un (by decide)).trans pk_us)))) H.size) (kV_X9_acceptIfFitting hE (e690 hE) rfl rfl ⟨(Nat.le_of_ble_eq_true rfl), (Nat.le_of_ble_eq_true rfl)⟩) [2, 0, 20, 8, 4, 19] rfl (by decide) rfl hl.1 rfl (lv_room (Nat.le_of_ble_eq_true rfl)) dX9_addClip_82 ⟨(Nat.le_of_ble_eq_true rfl), (Nat.le_of_ble_eq_true rfl)⟩) hP hD hS hA [2, 0, 20, 8, 4, 19] [1, 3, 5, 6, 7, 9, 10, 11, 12, 13, 14, 15, 16, 17, 18] rfl rfl (by decide) (by decide) (fun u9 H locs hP hD hS => ?_)
  have hP : va_P g.1 vwCl [(q29, .inl (g.2 3, 10, .inr (.inr (.inr (.inr f30))))), (q34, .inr (8, [.ref q53, .ref q54, .ref q55, .ref q56, .int 0, .int 4, .int 0])), (q53, .inr (5, [.ref q59, .ref q60])), (q63, .inl (g.2 0, 384, .inl f65)), (q59, .inl (g.2 0, 384, .inl f65)), (q60, .inl (g.2 0, 40, .inl f66)), (q43, .inr (9, [.ref q77, .ref q78, .int 1, .int 0])), (q54, .inr (9, [.ref q71, .ref q72, .int 1, .int 0])), (q77, .inl (g.2 0, 10, .inl f65)), (q71, .inl (g.2 0, 10, .inl f65)), (q78, .inl (g.2 0, 10, .inl f79)), (q72, .inl (g.2 0, 10, .inl f79)), (q55, .inl (g.2 0, 60, .inl f65)), (q45, .inl (g.2 0, 20, .inl f80)), (q56, .inl (g.2 0, 20, .inl f80)), (q44, .inl (g.2 0, 60, .inl (upd (upd (upd (upd (upd f65 0 x2) 1 3) 2 x3) 3 x4) 4 x5))), (q32, .inr (8, [.ref q42, .ref q43, .ref q44, .ref q45, .int 1, .int 4, .int 0])), (q64, .inl (g.2 0, 40, .inl (upd (upd (upd (upd (upd (upd (upd (upd (upd f66 1 0) 4 1) 9 1) 14 1) 19 1) 24 1) 29 1) 34 1) 39 1))), (q42, .inr (5, [.ref q63, .ref q64])), (q25, .inr (10, [.ref q29, .int 1, .int 1])), (q1, .inr (11, [.ref q25, w15, w16, w17, w18, w19, w20, w21, .int 0, .int 0, w24]))] H := hP
  have hD : va_D A [(q29, .inl (g.2 3, 10, .inr (.inr (.inr (.inr f30))))), (q34, .inr (8, [.ref q53, .ref q54, .ref q55, .ref q56, .int 0, .int 4, .int 0])), (q53, .inr (5, [.ref q59, .ref q60])), (q63, .inl (g.2 0, 384, .inl f65)), (q59, .inl (g.2 0, 384, .inl f65)), (q60, .inl (g.2 0, 40, .inl f66)), (q43, .inr (9, [.ref q77, .ref q78, .int 1, .int 0])), (q54, .inr (9, [.ref q71, .ref q72, .int 1, .int 0])), (q77, .inl (g.2 0, 10, .inl f65)), (q71, .inl (g.2 0, 10, .inl f65)), (q78, .inl (g.2 0, 10, .inl f79)), (q72, .inl (g.2 0, 10, .inl f79)), (q55, .inl (g.2 0, 60, .inl f65)), (q45, .inl (g.2 0, 20, .inl f80)), (q56, .inl (g.2 0, 20, .inl f80)), (q44, .inl (g.2 0, 60, .inl (upd (upd (upd (upd (upd f65 0 x2) 1 3) 2 x3) 3 x4) 4 x5))), (q32, .inr (8, [.ref q42, .ref q43, .ref q44, .ref q45, .int 1, .int 4, .int 0])), (q64, .inl (g.2 0, 40, .inl (upd (upd (upd (upd (upd (upd (upd (upd (upd f66 1 0) 4 1) 9 1) 14 1) 19 1) 24 1) 29 1) 34 1) 39 1))), (q42, .inr (5, [.ref q63, .ref q64])), (q25, .inr (10, [.ref q29, .int 1, .int 1])), (q1, .inr (11, [.ref q25, w15, w16, w17, w18, w19, w20, w21, .int 0, .int 0, w24]))] := hD
  refine lv_aload hx hb dX9_addClip_85 (lv_at hl 0 rfl) ?_
  refine g_i (wr := [(q29, .inl (g.2 3, 10, .inr (.inr (.inr (.inr f30))))), (q34, .inr (8, [.ref q53, .ref q54, .ref q55, .ref q56, .int 0, .int 4, .int 0])), (q53, .inr (5, [.ref q59, .ref q60])), (q63, .inl (g.2 0, 384, .inl f65)), (q59, .inl (g.2 0, 384, .inl f65)), (q60, .inl (g.2 0, 40, .inl f66)), (q43, .inr (9, [.ref q77, .ref q78, .int 1, .int 0])), (q54, .inr (9, [.ref q71, .ref q72, .int 1, .int 0])), (q77, .inl (g.2 0, 10, .inl f65)), (q71, .inl (g.2 0, 10, .inl f65)), (q78, .inl (g.2 0, 10, .inl f79)), (q72, .inl (g.2 0, 10, .inl f79)), (q55, .inl (g.2 0, 60, .inl f65)), (q45, .inl (g.2 0, 20, .inl f80)), (q56, .inl (g.2 0, 20, .inl f80)), (q44, .inl (g.2 0, 60, .inl (upd (upd (upd (upd (upd f65 0 x2) 1 3) 2 x3) 3 x4) 4 x5))), (q64, .inl (g.2 0, 40, .inl (upd (upd (upd (upd (upd (upd (upd (upd (upd f66 1 0) 4 1) 9 1) 14 1) 19 1) 24 1) 29 1) 34 1) 39 1))), (q42, .inr (5, [.ref q63, .ref q64])), (q25, .inr (10, [.ref q29, .int 1, .int 1])), (q1, .inr (11, [.ref q25, w15, w16, w17, w18, w19, w20, w21, .int 0, .int 0, w24]))]) (rV (rest := []) hx hb hml hown hE hP hD 16 rfl rfl (c1509_X6_clipCount l g q32 (.ref q42) (.ref q43) (.ref q44) (.ref q45) (.int 4) (.int 0) H.size) (kV_X6_clipCount hE (e297 hE) rfl rfl ⟨(Nat.le_of_ble_eq_true rfl), (Nat.le_of_ble_eq_true rfl)⟩) [16] rfl (by decide) rfl hl.1 rfl (lv_room (Nat.le_of_ble_eq_true rfl)) dX9_addClip_87 ⟨(Nat.le_of_ble_eq_true rfl), (Nat.le_of_ble_eq_true rfl)⟩) hP hD hS hA [16] [0, 1, 2, 3, 4, 5, 6, 7, 8, 9, 10, 11, 12, 13, 14, 15, 17, 18, 19, 20] rfl rfl (by decide) (by decide) (fun u10 H locs hP hD hS => ?_)
  have hP : va_P g.1 vwCl [(q29, .inl (g.2 3, 10, .inr (.inr (.inr (.inr f30))))), (q34, .inr (8, [.ref q53, .ref q54, .ref q55, .ref q56, .int 0, .int 4, .int 0])), (q53, .inr (5, [.ref q59, .ref q60])), (q63, .inl (g.2 0, 384, .inl f65)), (q59, .inl (g.2 0, 384, .inl f65)), (q60, .inl (g.2 0, 40, .inl f66)), (q43, .inr (9, [.ref q77, .ref q78, .int 1, .int 0])), (q54, .inr (9, [.ref q71, .ref q72, .int 1, .int 0])), (q77, .inl (g.2 0, 10, .inl f65)), (q71, .inl (g.2 0, 10, .inl f65)), (q78, .inl (g.2 0, 10, .inl f79)), (q72, .inl (g.2 0, 10, .inl f79)), (q55, .inl (g.2 0, 60, .inl f65)), (q45, .inl (g.2 0, 20, .inl f80)), (q56, .inl (g.2 0, 20, .inl f80)), (q44, .inl (g.2 0, 60, .inl (upd (upd (upd (upd (upd f65 0 x2) 1 3) 2 x3) 3 x4) 4 x5))), (q64, .inl (g.2 0, 40, .inl (upd (upd (upd (upd (upd (upd (upd (upd (upd f66 1 0) 4 1) 9 1) 14 1) 19 1) 24 1) 29 1) 34 1) 39 1))), (q42, .inr (5, [.ref q63, .ref q64])), (q25, .inr (10, [.ref q29, .int 1, .int 1])), (q1, .inr (11, [.ref q25, w15, w16, w17, w18, w19, w20, w21, .int 0, .int 0, w24])), (q32, .inr (8, [.ref q42, .ref q43, .ref q44, .ref q45, .int 1, .int 4, .int 0]))] H := hP
  have hD : va_D A [(q29, .inl (g.2 3, 10, .inr (.inr (.inr (.inr f30))))), (q34, .inr (8, [.ref q53, .ref q54, .ref q55, .ref q56, .int 0, .int 4, .int 0])), (q53, .inr (5, [.ref q59, .ref q60])), (q63, .inl (g.2 0, 384, .inl f65)), (q59, .inl (g.2 0, 384, .inl f65)), (q60, .inl (g.2 0, 40, .inl f66)), (q43, .inr (9, [.ref q77, .ref q78, .int 1, .int 0])), (q54, .inr (9, [.ref q71, .ref q72, .int 1, .int 0])), (q77, .inl (g.2 0, 10, .inl f65)), (q71, .inl (g.2 0, 10, .inl f65)), (q78, .inl (g.2 0, 10, .inl f79)), (q72, .inl (g.2 0, 10, .inl f79)), (q55, .inl (g.2 0, 60, .inl f65)), (q45, .inl (g.2 0, 20, .inl f80)), (q56, .inl (g.2 0, 20, .inl f80)), (q44, .inl (g.2 0, 60, .inl (upd (upd (upd (upd (upd f65 0 x2) 1 3) 2 x3) 3 x4) 4 x5))), (q64, .inl (g.2 0, 40, .inl (upd (upd (upd (upd (upd (upd (upd (upd (upd f66 1 0) 4 1) 9 1) 14 1) 19 1) 24 1) 29 1) 34 1) 39 1))), (q42, .inr (5, [.ref q63, .ref q64])), (q25, .inr (10, [.ref q29, .int 1, .int 1])), (q1, .inr (11, [.ref q25, w15, w16, w17, w18, w19, w20, w21, .int 0, .int 0, w24])), (q32, .inr (8, [.ref q42, .ref q43, .ref q44, .ref q45, .int 1, .int 4, .int 0]))] := hD
  refine lv_iconst (v := 1) hx hb dX9_addClip_90 (by decide) ?_
  refine x_isub (v := 0) hx hb dX9_addClip_91 (by decide) ?_
  exact x_zret hx hb hr rfl rfl hlocks hP hD hS hAe hsz (Nat.le_of_ble_eq_true rfl) (Nat.le_of_ble_eq_true rfl) (fun _ => 0) [0, 1, 2, 3, 4, 5, 6, 7, 8, 9, 10, 11, 12, 13, 14, 15, 16, 17, 18, 19, 20] (by decide) rfl dX9_addClip_92

set_option maxHeartbeats 4000000 in
set_option maxRecDepth 100000 in
theorem c1539_L_addClip (l : Launch) (g : gG) (hlx : l.stackTraces = false) (q1 q6 q26 q30 q33 q35 q43 q44 q45 q46 q54 q55 q56 q57 q60 q61 q64 q65 q72 q73 q78 q79 : Nat) (x2 x3 x4 x5 : Int32) (w16 w17 w18 w19 w20 w21 w22 w23 w24 w25 w40 w41 w42 w76 w77 : Value) (f31 : Nat → Option Nat) (f66 : Nat → Int32) (f67 : Nat → Int32) (f80 : Nat → Int32) (f81 : Nat → Int32) (f113 : Nat → Int64) (hf32 : f31 1 = some q33) (hf34 : f31 0 = some q35) (hf82 : f67 0 = 0) (hf83 : f67 2 = 0) (hf84 : f67 3 = 0) (hf85 : f67 5 = 0) (hf86 : f67 6 = 0) (hf87 : f67 7 = 0) (hf88 : f67 8 = 0) (hf89 : f67 10 = 0) (hf90 : f67 11 = 0) (hf91 : f67 12 = 0) (hf92 : f67 13 = 0) (hf93 : f67 15 = 0) (hf94 : f67 16 = 0) (hf95 : f67 17 = 0) (hf96 : f67 18 = 0) (hf97 : f67 20 = 0) (hf98 : f67 21 = 0) (hf99 : f67 22 = 0) (hf100 : f67 23 = 0) (hf101 : f67 25 = 0) (hf102 : f67 26 = 0) (hf103 : f67 27 = 0) (hf104 : f67 28 = 0) (hf105 : f67 30 = 0) (hf106 : f67 31 = 0) (hf107 : f67 32 = 0) (hf108 : f67 33 = 0) (hf109 : f67 35 = 0) (hf110 : f67 36 = 0) (hf111 : f67 37 = 0) (hf112 : f67 38 = 0) (h7 : (0 : Int32) ≤ x2) (h8 : x2 ≤ 9999) (h9 : (1 : Int32) ≤ x3) (h10 : x3 ≤ 9) (h11 : ((-50) : Int32) ≤ x4) (h12 : x4 ≤ 50) (h13 : (0 : Int32) ≤ x5) (h14 : x5 ≤ 3) (sz : Nat) : Met l yL_addClip [Cond.codeWith yL_addClip cL_addClip 8 (some .int) [(0, 16, 19, 15), (0, 16, 23, 17)]] ({ frames := 6, cells := 0, slots := 0, locals := 174 } : Room) (va_Pc [.ref q1, .int x2, .int 3, .int x3, .int x4, .int x5, .ref q6] (PZ g sz [(q6, .inl (g.2 1, 1, .inr (.inl f113))), (q46, .inl (g.2 0, 20, .inl f81)), (q57, .inl (g.2 0, 20, .inl f81)), (q45, .inl (g.2 0, 60, .inl f66)), (q56, .inl (g.2 0, 60, .inl f66)), (q79, .inl (g.2 0, 10, .inl f80)), (q73, .inl (g.2 0, 10, .inl f80)), (q78, .inl (g.2 0, 10, .inl f66)), (q72, .inl (g.2 0, 10, .inl f66)), (q44, .inr (9, [.ref q78, .ref q79, w76, w77])), (q55, .inr (9, [.ref q72, .ref q73, .int 1, .int 0])), (q65, .inl (g.2 0, 40, .inl f67)), (q61, .inl (g.2 0, 40, .inl f67)), (q64, .inl (g.2 0, 384, .inl f66)), (q60, .inl (g.2 0, 384, .inl f66)), (q43, .inr (5, [.ref q64, .ref q65])), (q54, .inr (5, [.ref q60, .ref q61])), (q35, .inr (8, [.ref q54, .ref q55, .ref q56, .ref q57, .int 0, .int 4, .int 0])), (q33, .inr (8, [.ref q43, .ref q44, .ref q45, .ref q46, w40, w41, w42])), (q30, .inl (g.2 3, 10, .inr (.inr (.inr (.inr f31))))), (q26, .inr (10, [.ref q30, .int 0, .int 0])), (q1, .inr (11, [.ref q26, w16, w17, w18, w19, w20, w21, w22, w23, w24, w25]))])) (QI g [(q6, .inl (g.2 1, 1, .inr (.inl f113))), (q46, .inl (g.2 0, 20, .inl f81)), (q57, .inl (g.2 0, 20, .inl f81)), (q45, .inl (g.2 0, 60, .inl f66)), (q56, .inl (g.2 0, 60, .inl f66)), (q79, .inl (g.2 0, 10, .inl f80)), (q73, .inl (g.2 0, 10, .inl f80)), (q78, .inl (g.2 0, 10, .inl f66)), (q72, .inl (g.2 0, 10, .inl f66)), (q44, .inr (9, [.ref q78, .ref q79, w76, w77])), (q55, .inr (9, [.ref q72, .ref q73, .int 1, .int 0])), (q65, .inl (g.2 0, 40, .inl f67)), (q61, .inl (g.2 0, 40, .inl f67)), (q64, .inl (g.2 0, 384, .inl f66)), (q60, .inl (g.2 0, 384, .inl f66)), (q43, .inr (5, [.ref q64, .ref q65])), (q54, .inr (5, [.ref q60, .ref q61])), (q35, .inr (8, [.ref q54, .ref q55, .ref q56, .ref q57, .int 0, .int 4, .int 0])), (q33, .inr (8, [.ref q43, .ref q44, .ref q45, .ref q46, w40, w41, w42])), (q30, .inl (g.2 3, 10, .inr (.inr (.inr (.inr f31))))), (q26, .inr (10, [.ref q30, .int 0, .int 0])), (q1, .inr (11, [.ref q26, w16, w17, w18, w19, w20, w21, w22, w23, w24, w25]))] sz 0 (fun _ => [(q6, .inl (g.2 1, 1, .inr (.inl (vp_updL f113 0 0))))])) 0 0 (va_A [(q6, .inl (g.2 1, 1, .inr (.inl f113))), (q46, .inl (g.2 0, 20, .inl f81)), (q57, .inl (g.2 0, 20, .inl f81)), (q45, .inl (g.2 0, 60, .inl f66)), (q56, .inl (g.2 0, 60, .inl f66)), (q79, .inl (g.2 0, 10, .inl f80)), (q73, .inl (g.2 0, 10, .inl f80)), (q78, .inl (g.2 0, 10, .inl f66)), (q72, .inl (g.2 0, 10, .inl f66)), (q44, .inr (9, [.ref q78, .ref q79, w76, w77])), (q55, .inr (9, [.ref q72, .ref q73, .int 1, .int 0])), (q65, .inl (g.2 0, 40, .inl f67)), (q61, .inl (g.2 0, 40, .inl f67)), (q64, .inl (g.2 0, 384, .inl f66)), (q60, .inl (g.2 0, 384, .inl f66)), (q43, .inr (5, [.ref q64, .ref q65])), (q54, .inr (5, [.ref q60, .ref q61])), (q35, .inr (8, [.ref q54, .ref q55, .ref q56, .ref q57, .int 0, .int 4, .int 0])), (q33, .inr (8, [.ref q43, .ref q44, .ref q45, .ref q46, w40, w41, w42])), (q30, .inl (g.2 3, 10, .inr (.inr (.inr (.inr f31))))), (q26, .inr (10, [.ref q30, .int 0, .int 0])), (q1, .inr (11, [.ref q26, w16, w17, w18, w19, w20, w21, w22, w23, w24, w25]))] sz) := by
  refine ofH (by decide) (Nat.le_of_ble_eq_true rfl) rfl ?_
  intro p e s m args below meth c A ls hAe hsz hx hb hml hr hlocks hin hown hE hP hD hA hS hl htb hz
  have hown : s.vm.findClass RL = some m.cls := hown
  refine lv_aload hx hb dL_addClip_0 (lv_at hl 6 rfl) ?_
  refine lv_iconst (v := 0) hx hb dL_addClip_2 (by decide) ?_
  refine lv_aload_n hx hb dL_addClip_3 rfl (lv_at hl 0 rfl) ?_
  refine lv_iload_n hx hb dL_addClip_4 rfl (lv_at hl 1 rfl) ?_
  refine lv_iload_n hx hb dL_addClip_5 rfl (lv_at hl 2 rfl) ?_
  refine lv_iload_n hx hb dL_addClip_6 rfl (lv_at hl 3 rfl) ?_
  refine lv_iload hx hb dL_addClip_7 (lv_at hl 4 rfl) ?_
  refine lv_iload hx hb dL_addClip_9 (lv_at hl 5 rfl) ?_
  refine g_i (wr := [(q6, .inl (g.2 1, 1, .inr (.inl f113)))]) (rV (rest := [.int 0, .ref q6]) hx hb hml hown hE hP hD 21 rfl rfl (c1538_X9_addClip l g q1 q26 q30 q33 q35 q43 q44 q45 q46 q54 q55 q56 q57 q60 q61 q64 q65 q72 q73 q78 q79 x2 x3 x4 x5 w16 w17 w18 w19 w20 w21 w22 w23 w24 w25 w40 w41 w42 w76 w77 f31 f66 f67 f80 f81 (hf32) (hf34) (hf82) (hf83) (hf84) (hf85) (hf86) (hf87) (hf88) (hf89) (hf90) (hf91) (hf92) (hf93) (hf94) (hf95) (hf96) (hf97) (hf98) (hf99) (hf100) (hf101) (hf102) (hf103) (hf104) (hf105) (hf106) (hf107) (hf108) (hf109) (hf110) (hf111) (hf112) h7 h8 h9 h10 h11 h12 h13 h14 s.heap.size) (kV_X9_addClip hE (e803 hE) rfl rfl ⟨(Nat.le_of_ble_eq_true rfl), (Nat.le_of_ble_eq_true rfl)⟩) [1, 2, 3, 4, 5, 6, 7, 8, 9, 10, 11, 12, 13, 14, 15, 16, 17, 18, 19, 20, 21] rfl (by decide) rfl hl.1 rfl (lv_room (Nat.le_of_ble_eq_true rfl)) dL_addClip_11 ⟨(Nat.le_of_ble_eq_true rfl), (Nat.le_of_ble_eq_true rfl)⟩) hP hD hS hA [1, 2, 3, 4, 5, 6, 7, 8, 9, 10, 11, 12, 13, 14, 15, 16, 17, 18, 19, 20, 21] [0] rfl rfl (by decide) (by decide) (fun u1 H locs hP hD hS => ?_)
  have hP : va_P g.1 vwCl [(q6, .inl (g.2 1, 1, .inr (.inl f113))), (q30, .inl (g.2 3, 10, .inr (.inr (.inr (.inr f31))))), (q35, .inr (8, [.ref q54, .ref q55, .ref q56, .ref q57, .int 0, .int 4, .int 0])), (q54, .inr (5, [.ref q60, .ref q61])), (q64, .inl (g.2 0, 384, .inl f66)), (q60, .inl (g.2 0, 384, .inl f66)), (q61, .inl (g.2 0, 40, .inl f67)), (q44, .inr (9, [.ref q78, .ref q79, .int 1, .int 0])), (q55, .inr (9, [.ref q72, .ref q73, .int 1, .int 0])), (q78, .inl (g.2 0, 10, .inl f66)), (q72, .inl (g.2 0, 10, .inl f66)), (q79, .inl (g.2 0, 10, .inl f80)), (q73, .inl (g.2 0, 10, .inl f80)), (q56, .inl (g.2 0, 60, .inl f66)), (q46, .inl (g.2 0, 20, .inl f81)), (q57, .inl (g.2 0, 20, .inl f81)), (q45, .inl (g.2 0, 60, .inl (upd (upd (upd (upd (upd f66 0 x2) 1 3) 2 x3) 3 x4) 4 x5))), (q65, .inl (g.2 0, 40, .inl (upd (upd (upd (upd (upd (upd (upd (upd (upd f67 1 0) 4 1) 9 1) 14 1) 19 1) 24 1) 29 1) 34 1) 39 1))), (q43, .inr (5, [.ref q64, .ref q65])), (q26, .inr (10, [.ref q30, .int 1, .int 1])), (q1, .inr (11, [.ref q26, w16, w17, w18, w19, w20, w21, w22, .int 0, .int 0, w25])), (q33, .inr (8, [.ref q43, .ref q44, .ref q45, .ref q46, .int 1, .int 4, .int 0]))] H := hP
  have hD : va_D A [(q6, .inl (g.2 1, 1, .inr (.inl f113))), (q30, .inl (g.2 3, 10, .inr (.inr (.inr (.inr f31))))), (q35, .inr (8, [.ref q54, .ref q55, .ref q56, .ref q57, .int 0, .int 4, .int 0])), (q54, .inr (5, [.ref q60, .ref q61])), (q64, .inl (g.2 0, 384, .inl f66)), (q60, .inl (g.2 0, 384, .inl f66)), (q61, .inl (g.2 0, 40, .inl f67)), (q44, .inr (9, [.ref q78, .ref q79, .int 1, .int 0])), (q55, .inr (9, [.ref q72, .ref q73, .int 1, .int 0])), (q78, .inl (g.2 0, 10, .inl f66)), (q72, .inl (g.2 0, 10, .inl f66)), (q79, .inl (g.2 0, 10, .inl f80)), (q73, .inl (g.2 0, 10, .inl f80)), (q56, .inl (g.2 0, 60, .inl f66)), (q46, .inl (g.2 0, 20, .inl f81)), (q57, .inl (g.2 0, 20, .inl f81)), (q45, .inl (g.2 0, 60, .inl (upd (upd (upd (upd (upd f66 0 x2) 1 3) 2 x3) 3 x4) 4 x5))), (q65, .inl (g.2 0, 40, .inl (upd (upd (upd (upd (upd (upd (upd (upd (upd f67 1 0) 4 1) 9 1) 14 1) 19 1) 24 1) 29 1) 34 1) 39 1))), (q43, .inr (5, [.ref q64, .ref q65])), (q26, .inr (10, [.ref q30, .int 1, .int 1])), (q1, .inr (11, [.ref q26, w16, w17, w18, w19, w20, w21, w22, .int 0, .int 0, w25])), (q33, .inr (8, [.ref q43, .ref q44, .ref q45, .ref q46, .int 1, .int 4, .int 0]))] := hD
  refine lv_i2l (v := 0) hx hb dL_addClip_14 (by decide) ?_
  refine x_last (ws' := [(q6, .inl (g.2 1, 1, .inr (.inl (vp_updL f113 0 0)))), (q30, .inl (g.2 3, 10, .inr (.inr (.inr (.inr f31))))), (q35, .inr (8, [.ref q54, .ref q55, .ref q56, .ref q57, .int 0, .int 4, .int 0])), (q54, .inr (5, [.ref q60, .ref q61])), (q64, .inl (g.2 0, 384, .inl f66)), (q60, .inl (g.2 0, 384, .inl f66)), (q61, .inl (g.2 0, 40, .inl f67)), (q44, .inr (9, [.ref q78, .ref q79, .int 1, .int 0])), (q55, .inr (9, [.ref q72, .ref q73, .int 1, .int 0])), (q78, .inl (g.2 0, 10, .inl f66)), (q72, .inl (g.2 0, 10, .inl f66)), (q79, .inl (g.2 0, 10, .inl f80)), (q73, .inl (g.2 0, 10, .inl f80)), (q56, .inl (g.2 0, 60, .inl f66)), (q46, .inl (g.2 0, 20, .inl f81)), (q57, .inl (g.2 0, 20, .inl f81)), (q45, .inl (g.2 0, 60, .inl (upd (upd (upd (upd (upd f66 0 x2) 1 3) 2 x3) 3 x4) 4 x5))), (q65, .inl (g.2 0, 40, .inl (upd (upd (upd (upd (upd (upd (upd (upd (upd f67 1 0) 4 1) 9 1) 14 1) 19 1) 24 1) 29 1) 34 1) 39 1))), (q43, .inr (5, [.ref q64, .ref q65])), (q26, .inr (10, [.ref q30, .int 1, .int 1])), (q1, .inr (11, [.ref q26, w16, w17, w18, w19, w20, w21, w22, .int 0, .int 0, w25])), (q33, .inr (8, [.ref q43, .ref q44, .ref q45, .ref q46, .int 1, .int 4, .int 0]))]) hx hb hE hP hD hS 0 rfl 0 (x_in (by decide)) (by decide) dL_addClip_15 rfl (fun H locs hP hD hS => ?_)
  refine lv_goto (tgt := 27) hx hb dL_addClip_16 (by decide) ?_
  refine lv_iconst (v := 0) hx hb dL_addClip_27 (by decide) ?_
  exact x_zret hx hb hr rfl rfl hlocks hP hD hS hAe hsz (Nat.le_of_ble_eq_true rfl) (Nat.le_of_ble_eq_true rfl) (fun _ => 0) [0] (by decide) rfl dL_addClip_28

set_option maxHeartbeats 4000000 in
set_option maxRecDepth 100000 in
theorem c1540_X10_ofClip (l : Launch) (g : gG) (q1 q39 : Nat) (w3 w4 w5 w6 w7 w8 w9 w10 w11 w12 w13 w14 w15 w16 w17 w18 w19 w20 w21 w22 w23 w24 w25 w26 w27 w28 w29 w30 w31 w32 w33 w34 w35 w36 w37 w38 : Value) (f40 : Nat → Int32) (hf41 : f40 394 = 3) (sz : Nat) : Met l yX10_ofClip [Cond.code yX10_ofClip cX10_ofClip 3 (some .int)] ({ frames := 0, cells := 0, slots := 0, locals := 0 } : Room) (va_Pc [.ref q1, .int 0, .int 1] (PX g sz [(q39, .inl (g.2 0, 497, .inl f40)), (q1, .inr (12, [.ref q39, w3, w4, w5, w6, w7, w8, w9, w10, w11, w12, w13, w14, w15, w16, w17, w18, w19, w20, w21, w22, w23, w24, w25, w26, w27, w28, w29, w30, w31, w32, w33, w34, w35, w36, w37, w38]))])) (QI g [(q39, .inl (g.2 0, 497, .inl f40)), (q1, .inr (12, [.ref q39, w3, w4, w5, w6, w7, w8, w9, w10, w11, w12, w13, w14, w15, w16, w17, w18, w19, w20, w21, w22, w23, w24, w25, w26, w27, w28, w29, w30, w31, w32, w33, w34, w35, w36, w37, w38]))] sz 3 (fun _ => [(q39, .inl (g.2 0, 497, .inl f40)), (q1, .inr (12, [.ref q39, w3, w4, w5, w6, w7, w8, w9, w10, w11, w12, w13, w14, w15, w16, w17, w18, w19, w20, w21, w22, w23, w24, w25, w26, w27, w28, w29, w30, w31, w32, w33, w34, w35, w36, w37, w38]))])) 0 0 (va_A [(q39, .inl (g.2 0, 497, .inl f40)), (q1, .inr (12, [.ref q39, w3, w4, w5, w6, w7, w8, w9, w10, w11, w12, w13, w14, w15, w16, w17, w18, w19, w20, w21, w22, w23, w24, w25, w26, w27, w28, w29, w30, w31, w32, w33, w34, w35, w36, w37, w38]))] sz) := by
  refine ofN (by decide) (Nat.le_of_ble_eq_true rfl) rfl ?_
  intro p e s m args below meth c A ls hAe hsz hx hb hml hr hlocks hin hown hE hP hD hA hS hl
  have hown : s.vm.findClass RX10 = some m.cls := hown
  refine lv_aload_n hx hb dX10_ofClip_0 rfl (lv_at hl 0 rfl) ?_
  refine gf_RX10_9 hx hb hown hE hP 1 rfl rfl dX10_ofClip_1 ?_
  refine lv_sipush (v := 393) hx hb dX10_ofClip_4 (by decide) ?_
  refine lv_iconst (v := 5) hx hb dX10_ofClip_7 (by decide) ?_
  refine lv_iload_n hx hb dX10_ofClip_8 rfl (lv_at hl 1 rfl) ?_
  refine x_imul (v := 0) hx hb dX10_ofClip_9 (by decide) ?_
  refine x_iadd (v := 393) hx hb dX10_ofClip_10 (by decide) ?_
  refine lv_iload_n hx hb dX10_ofClip_11 rfl (lv_at hl 2 rfl) ?_
  refine x_iadd (v := 394) hx hb dX10_ofClip_12 (by decide) ?_
  refine x_iald (v := 3) hx hb hE hP 0 rfl 394 (x_in (by decide)) (by decide) hf41 dX10_ofClip_13 ?_
  exact x_zret hx hb hr rfl rfl hlocks hP hD hS hAe hsz (Nat.le_of_ble_eq_true rfl) (Nat.le_of_ble_eq_true rfl) (fun _ => 0) [0, 1] (by decide) rfl dX10_ofClip_14

set_option maxHeartbeats 4000000 in
set_option maxRecDepth 100000 in
theorem c1541_X10_isTooGreat (l : Launch) (g : gG) (q1 q39 q40 q41 : Nat) (x62 : Int32) (w3 w4 w5 w6 w7 w8 w11 w12 w13 w14 w15 w16 w17 w18 w19 w20 w21 w22 w23 w24 w25 w26 w27 w28 w29 w30 w31 w32 w33 w34 w35 w36 w37 w38 : Value) (f42 : Nat → Int32) (f51 : Nat → Int32) (hf43 : f42 0 = 0) (hf44 : f42 49 = 0) (hf45 : f42 98 = 0) (hf46 : f42 147 = 0) (hf47 : f42 196 = 0) (hf48 : f42 245 = 0) (hf49 : f42 294 = 0) (hf50 : f42 343 = 0) (hf52 : f51 0 = 0) (hf53 : f51 1 = 0) (hf54 : f51 2 = 0) (hf55 : f51 3 = 0) (hf56 : f51 4 = 0) (hf57 : f51 5 = 0) (hf58 : f51 6 = 0) (hf59 : f51 7 = 0) (hf60 : f42 392 = 1) (hf61 : f42 395 = x62) (hf63 : f42 394 = 3) (sz : Nat) : Met l yX10_isTooGreat [Cond.code yX10_isTooGreat cX10_isTooGreat 4 (some .boolean)] ({ frames := 3, cells := 0, slots := 0, locals := 66 } : Room) (va_Pc [.ref q1] (PX g sz [(q41, .inl (g.2 0, 8, .inl f51)), (q40, .inl (g.2 0, 8, .inl f51)), (q39, .inl (g.2 0, 497, .inl f42)), (q1, .inr (12, [.ref q39, w3, w4, w5, w6, w7, w8, .ref q40, .ref q41, w11, w12, w13, w14, w15, w16, w17, w18, w19, w20, w21, w22, w23, w24, w25, w26, w27, w28, w29, w30, w31, w32, w33, w34, w35, w36, w37, w38]))])) (QI g [(q41, .inl (g.2 0, 8, .inl f51)), (q40, .inl (g.2 0, 8, .inl f51)), (q39, .inl (g.2 0, 497, .inl f42)), (q1, .inr (12, [.ref q39, w3, w4, w5, w6, w7, w8, .ref q40, .ref q41, w11, w12, w13, w14, w15, w16, w17, w18, w19, w20, w21, w22, w23, w24, w25, w26, w27, w28, w29, w30, w31, w32, w33, w34, w35, w36, w37, w38]))] sz 0 (fun _ => [(q41, .inl (g.2 0, 8, .inl f51)), (q40, .inl (g.2 0, 8, .inl f51)), (q39, .inl (g.2 0, 497, .inl f42)), (q1, .inr (12, [.ref q39, w3, w4, w5, w6, w7, w8, .ref q40, .ref q41, w11, w12, w13, w14, w15, w16, w17, w18, w19, w20, w21, w22, w23, w24, w25, w26, w27, w28, w29, w30, w31, w32, w33, w34, w35, w36, w37, w38]))])) 0 0 (va_A [(q41, .inl (g.2 0, 8, .inl f51)), (q40, .inl (g.2 0, 8, .inl f51)), (q39, .inl (g.2 0, 497, .inl f42)), (q1, .inr (12, [.ref q39, w3, w4, w5, w6, w7, w8, .ref q40, .ref q41, w11, w12, w13, w14, w15, w16, w17, w18, w19, w20, w21, w22, w23, w24, w25, w26, w27, w28, w29, w30, w31, w32, w33, w34, w35, w36, w37, w38]))] sz) := by
  refine ofN (by decide) (Nat.le_of_ble_eq_true rfl) rfl ?_
  intro p e s m args below meth c A ls hAe hsz hx hb hml hr hlocks hin hown hE hP hD hA hS hl
  have hown : s.vm.findClass RX10 = some m.cls := hown
  refine lv_aload_n hx hb dX10_isTooGreat_0 rfl (lv_at hl 0 rfl) ?_
  refine g_v (wr := []) (rV (rest := []) hx hb hml hown hE hP hD 3 rfl rfl (c1241_X10_layLengths l g q1 q39 q40 q41 w3 w4 w5 w6 w7 w8 w11 w12 w13 w14 w15 w16 w17 w18 w19 w20 w21 w22 w23 w24 w25 w26 w27 w28 w29 w30 w31 w32 w33 w34 w35 w36 w37 w38 f42 f51 (hf43) (hf52) (hf44) (hf53) (hf45) (hf54) (hf46) (hf55) (hf47) (hf56) (hf48) (hf57) (hf49) (hf58) (hf50) (hf59) s.heap.size) (kV_X10_layLengths hE (e1452 hE) rfl rfl ⟨(Nat.le_of_ble_eq_true rfl), (Nat.le_of_ble_eq_true rfl)⟩) [0, 1, 2, 3] rfl (by decide) rfl hl.1 rfl (lv_room (Nat.le_of_ble_eq_true rfl)) dX10_isTooGreat_1 ⟨(Nat.le_of_ble_eq_true rfl), (Nat.le_of_ble_eq_true rfl)⟩) hP hD hS hA [0, 1, 2, 3] [] rfl rfl (by decide) (by decide) (fun u1 H locs hP hD hS => ?_)
  have hP : va_P g.1 vwCl [(q41, .inl (g.2 0, 8, .inl f51)), (q40, .inl (g.2 0, 8, .inl f51)), (q39, .inl (g.2 0, 497, .inl f42)), (q1, .inr (12, [.ref q39, w3, w4, w5, w6, w7, w8, .ref q40, .ref q41, w11, w12, w13, w14, w15, w16, w17, w18, w19, w20, w21, w22, w23, w24, w25, w26, w27, w28, w29, w30, w31, w32, w33, w34, w35, w36, w37, w38]))] H := hP
  have hD : va_D A [(q41, .inl (g.2 0, 8, .inl f51)), (q40, .inl (g.2 0, 8, .inl f51)), (q39, .inl (g.2 0, 497, .inl f42)), (q1, .inr (12, [.ref q39, w3, w4, w5, w6, w7, w8, .ref q40, .ref q41, w11, w12, w13, w14, w15, w16, w17, w18, w19, w20, w21, w22, w23, w24, w25, w26, w27, w28, w29, w30, w31, w32, w33, w34, w35, w36, w37, w38]))] := hD
  refine lv_iconst (v := 0) hx hb dX10_isTooGreat_4 (by decide) ?_
  refine lv_istore_n (lv' := [(1, .int 0), (0, .ref q1)]) hx hb dX10_isTooGreat_5 rfl hl (by decide) rfl (fun ls hl => ?_)
  refine lv_iconst (v := 0) hx hb dX10_isTooGreat_6 (by decide) ?_
  refine lv_istore_n (lv' := [(2, .int 0), (1, .int 0), (0, .ref q1)]) hx hb dX10_isTooGreat_7 rfl hl (by decide) rfl (fun ls hl => ?_)
  refine lv_iload_n hx hb dX10_isTooGreat_8 rfl (lv_at hl 0 rfl) ?_
  refine lv_bipush (v := 8) hx hb dX10_isTooGreat_9 (by decide) ?_
  refine lv_icmp_ge (tgt := 40) hx hb dX10_isTooGreat_11 (by decide) (fun h => absurd h (by decide)) (fun _ => ?_)
  refine lv_iload_n hx hb dX10_isTooGreat_14 rfl (lv_at hl 1 rfl) ?_
  refine lv_aload_n hx hb dX10_isTooGreat_15 rfl (lv_at hl 2 rfl) ?_
  refine gf_RX10_22 hx hb hown hE hP 3 rfl rfl dX10_isTooGreat_16 ?_
  refine lv_iload_n hx hb dX10_isTooGreat_19 rfl (lv_at hl 0 rfl) ?_
  refine x_iald (v := 0) hx hb hE hP 1 rfl 0 (x_in (by decide)) (by decide) hf52 dX10_isTooGreat_20 ?_
  refine lv_sipush (v := 20000) hx hb dX10_isTooGreat_21 (by decide) ?_
  refine lv_icmp_le (tgt := 31) hx hb dX10_isTooGreat_24 (by decide) (fun _ => ?_) (fun h => absurd (by decide) h)
  refine lv_iconst (v := 0) hx hb dX10_isTooGreat_31 (by decide) ?_
  refine x_ior (v := 0) hx hb dX10_isTooGreat_32 (by decide) ?_
  refine lv_istore_n (lv' := [(1, .int 0), (2, .int 0), (0, .ref q1)]) hx hb dX10_isTooGreat_33 rfl hl (by decide) rfl (fun ls hl => ?_)
  refine lv_iinc (v := 1) (lv' := [(2, .int 1), (1, .int 0), (0, .ref q1)]) hx hb dX10_isTooGreat_34 hl (k := 1) rfl (by decide) (by decide) rfl (fun ls hl => ?_)
  refine lv_goto (tgt := 8) hx hb dX10_isTooGreat_37 (by decide) ?_
  refine lv_iload_n hx hb dX10_isTooGreat_8 rfl (lv_at hl 0 rfl) ?_
  refine lv_bipush (v := 8) hx hb dX10_isTooGreat_9 (by decide) ?_
  refine lv_icmp_ge (tgt := 40) hx hb dX10_isTooGreat_11 (by decide) (fun h => absurd h (by decide)) (fun _ => ?_)
  refine lv_iload_n hx hb dX10_isTooGreat_14 rfl (lv_at hl 1 rfl) ?_
  refine lv_aload_n hx hb dX10_isTooGreat_15 rfl (lv_at hl 2 rfl) ?_
  refine gf_RX10_22 hx hb hown hE hP 3 rfl rfl dX10_isTooGreat_16 ?_
  refine lv_iload_n hx hb dX10_isTooGreat_19 rfl (lv_at hl 0 rfl) ?_
  refine x_iald (v := 0) hx hb hE hP 1 rfl 1 (x_in (by decide)) (by decide) hf53 dX10_isTooGreat_20 ?_
  refine lv_sipush (v := 20000) hx hb dX10_isTooGreat_21 (by decide) ?_
  refine lv_icmp_le (tgt := 31) hx hb dX10_isTooGreat_24 (by decide) (fun _ => ?_) (fun h => absurd (by decide) h)
  refine lv_iconst (v := 0) hx hb dX10_isTooGreat_31 (by decide) ?_
  refine x_ior (v := 0) hx hb dX10_isTooGreat_32 (by decide) ?_
  refine lv_istore_n (lv' := [(1, .int 0), (2, .int 1), (0, .ref q1)]) hx hb dX10_isTooGreat_33 rfl hl (by decide) rfl (fun ls hl => ?_)
  refine lv_iinc (v := 2) (lv' := [(2, .int 2), (1, .int 0), (0, .ref q1)]) hx hb dX10_isTooGreat_34 hl (k := 1) rfl (by decide) (by decide) rfl (fun ls hl => ?_)
  refine lv_goto (tgt := 8) hx hb dX10_isTooGreat_37 (by decide) ?_
  refine lv_iload_n hx hb dX10_isTooGreat_8 rfl (lv_at hl 0 rfl) ?_
  refine lv_bipush (v := 8) hx hb dX10_isTooGreat_9 (by decide) ?_
  refine lv_icmp_ge (tgt := 40) hx hb dX10_isTooGreat_11 (by decide) (fun h => absurd h (by decide)) (fun _ => ?_)
  refine lv_iload_n hx hb dX10_isTooGreat_14 rfl (lv_at hl 1 rfl) ?_
  refine lv_aload_n hx hb dX10_isTooGreat_15 rfl (lv_at hl 2 rfl) ?_
  refine gf_RX10_22 hx hb hown hE hP 3 rfl rfl dX10_isTooGreat_16 ?_
  refine lv_iload_n hx hb dX10_isTooGreat_19 rfl (lv_at hl 0 rfl) ?_
  refine x_iald (v := 0) hx hb hE hP 1 rfl 2 (x_in (by decide)) (by decide) hf54 dX10_isTooGreat_20 ?_
  refine lv_sipush (v := 20000) hx hb dX10_isTooGreat_21 (by decide) ?_
  refine lv_icmp_le (tgt := 31) hx hb dX10_isTooGreat_24 (by decide) (fun _ => ?_) (fun h => absurd (by decide) h)
  refine lv_iconst (v := 0) hx hb dX10_isTooGreat_31 (by decide) ?_
  refine x_ior (v := 0) hx hb dX10_isTooGreat_32 (by decide) ?_
  refine lv_istore_n (lv' := [(1, .int 0), (2, .int 2), (0, .ref q1)]) hx hb dX10_isTooGreat_33 rfl hl (by decide) rfl (fun ls hl => ?_)
  refine lv_iinc (v := 3) (lv' := [(2, .int 3), (1, .int 0), (0, .ref q1)]) hx hb dX10_isTooGreat_34 hl (k := 1) rfl (by decide) (by decide) rfl (fun ls hl => ?_)
  refine lv_goto (tgt := 8) hx hb dX10_isTooGreat_37 (by decide) ?_
  refine lv_iload_n hx hb dX10_isTooGreat_8 rfl (lv_at hl 0 rfl) ?_
  refine lv_bipush (v := 8) hx hb dX10_isTooGreat_9 (by decide) ?_
  refine lv_icmp_ge (tgt := 40) hx hb dX10_isTooGreat_11 (by decide) (fun h => absurd h (by decide)) (fun _ => ?_)
  refine lv_iload_n hx hb dX10_isTooGreat_14 rfl (lv_at hl 1 rfl) ?_
  refine lv_aload_n hx hb dX10_isTooGreat_15 rfl (lv_at hl 2 rfl) ?_
  refine gf_RX10_22 hx hb hown hE hP 3 rfl rfl dX10_isTooGreat_16 ?_
  refine lv_iload_n hx hb dX10_isTooGreat_19 rfl (lv_at hl 0 rfl) ?_
  refine x_iald (v := 0) hx hb hE hP 1 rfl 3 (x_in (by decide)) (by decide) hf55 dX10_isTooGreat_20 ?_
  refine lv_sipush (v := 20000) hx hb dX10_isTooGreat_21 (by decide) ?_
  refine lv_icmp_le (tgt := 31) hx hb dX10_isTooGreat_24 (by decide) (fun _ => ?_) (fun h => absurd (by decide) h)
  refine lv_iconst (v := 0) hx hb dX10_isTooGreat_31 (by decide) ?_
  refine x_ior (v := 0) hx hb dX10_isTooGreat_32 (by decide) ?_
  refine lv_istore_n (lv' := [(1, .int 0), (2, .int 3), (0, .ref q1)]) hx hb dX10_isTooGreat_33 rfl hl (by decide) rfl (fun ls hl => ?_)
  refine lv_iinc (v := 4) (lv' := [(2, .int 4), (1, .int 0), (0, .ref q1)]) hx hb dX10_isTooGreat_34 hl (k := 1) rfl (by decide) (by decide) rfl (fun ls hl => ?_)
  refine lv_goto (tgt := 8) hx hb dX10_isTooGreat_37 (by decide) ?_
  refine lv_iload_n hx hb dX10_isTooGreat_8 rfl (lv_at hl 0 rfl) ?_
  refine lv_bipush (v := 8) hx hb dX10_isTooGreat_9 (by decide) ?_
  refine lv_icmp_ge (tgt := 40) hx hb dX10_isTooGreat_11 (by decide) (fun h => absurd h (by decide)) (fun _ => ?_)
  refine lv_iload_n hx hb dX10_isTooGreat_14 rfl (lv_at hl 1 rfl) ?_
  refine lv_aload_n hx hb dX10_isTooGreat_15 rfl (lv_at hl 2 rfl) ?_
  refine gf_RX10_22 hx hb hown hE hP 3 rfl rfl dX10_isTooGreat_16 ?_
  refine lv_iload_n hx hb dX10_isTooGreat_19 rfl (lv_at hl 0 rfl) ?_
  refine x_iald (v := 0) hx hb hE hP 1 rfl 4 (x_in (by decide)) (by decide) hf56 dX10_isTooGreat_20 ?_
  refine lv_sipush (v := 20000) hx hb dX10_isTooGreat_21 (by decide) ?_
  refine lv_icmp_le (tgt := 31) hx hb dX10_isTooGreat_24 (by decide) (fun _ => ?_) (fun h => absurd (by decide) h)
  refine lv_iconst (v := 0) hx hb dX10_isTooGreat_31 (by decide) ?_
  refine x_ior (v := 0) hx hb dX10_isTooGreat_32 (by decide) ?_
  refine lv_istore_n (lv' := [(1, .int 0), (2, .int 4), (0, .ref q1)]) hx hb dX10_isTooGreat_33 rfl hl (by decide) rfl (fun ls hl => ?_)
  refine lv_iinc (v := 5) (lv' := [(2, .int 5), (1, .int 0), (0, .ref q1)]) hx hb dX10_isTooGreat_34 hl (k := 1) rfl (by decide) (by decide) rfl (fun ls hl => ?_)
  refine lv_goto (tgt := 8) hx hb dX10_isTooGreat_37 (by decide) ?_
  refine lv_iload_n hx hb dX10_isTooGreat_8 rfl (lv_at hl 0 rfl) ?_
  refine lv_bipush (v := 8) hx hb dX10_isTooGreat_9 (by decide) ?_
  refine lv_icmp_ge (tgt := 40) hx hb dX10_isTooGreat_11 (by decide) (fun h => absurd h (by decide)) (fun _ => ?_)
  refine lv_iload_n hx hb dX10_isTooGreat_14 rfl (lv_at hl 1 rfl) ?_
  refine lv_aload_n hx hb dX10_isTooGreat_15 rfl (lv_at hl 2 rfl) ?_
  refine gf_RX10_22 hx hb hown hE hP 3 rfl rfl dX10_isTooGreat_16 ?_
  refine lv_iload_n hx hb dX10_isTooGreat_19 rfl (lv_at hl 0 rfl) ?_
  refine x_iald (v := 0) hx hb hE hP 1 rfl 5 (x_in (by decide)) (by decide) hf57 dX10_isTooGreat_20 ?_
  refine lv_sipush (v := 20000) hx hb dX10_isTooGreat_21 (by decide) ?_
  refine lv_icmp_le (tgt := 31) hx hb dX10_isTooGreat_24 (by decide) (fun _ => ?_) (fun h => absurd (by decide) h)
  refine lv_iconst (v := 0) hx hb dX10_isTooGreat_31 (by decide) ?_
  refine x_ior (v := 0) hx hb dX10_isTooGreat_32 (by decide) ?_
  refine lv_istore_n (lv' := [(1, .int 0), (2, .int 5), (0, .ref q1)]) hx hb dX10_isTooGreat_33 rfl hl (by decide) rfl (fun ls hl => ?_)
  refine lv_iinc (v := 6) (lv' := [(2, .int 6), (1, .int 0), (0, .ref q1)]) hx hb dX10_isTooGreat_34 hl (k := 1) rfl (by decide) (by decide) rfl (fun ls hl => ?_)
  refine lv_goto (tgt := 8) hx hb dX10_isTooGreat_37 (by decide) ?_
  refine lv_iload_n hx hb dX10_isTooGreat_8 rfl (lv_at hl 0 rfl) ?_
  refine lv_bipush (v := 8) hx hb dX10_isTooGreat_9 (by decide) ?_
  refine lv_icmp_ge (tgt := 40) hx hb dX10_isTooGreat_11 (by decide) (fun h => absurd h (by decide)) (fun _ => ?_)
  refine lv_iload_n hx hb dX10_isTooGreat_14 rfl (lv_at hl 1 rfl) ?_
  refine lv_aload_n hx hb dX10_isTooGreat_15 rfl (lv_at hl 2 rfl) ?_
  refine gf_RX10_22 hx hb hown hE hP 3 rfl rfl dX10_isTooGreat_16 ?_
  refine lv_iload_n hx hb dX10_isTooGreat_19 rfl (lv_at hl 0 rfl) ?_
  refine x_iald (v := 0) hx hb hE hP 1 rfl 6 (x_in (by decide)) (by decide) hf58 dX10_isTooGreat_20 ?_
  refine lv_sipush (v := 20000) hx hb dX10_isTooGreat_21 (by decide) ?_
  refine lv_icmp_le (tgt := 31) hx hb dX10_isTooGreat_24 (by decide) (fun _ => ?_) (fun h => absurd (by decide) h)
  refine lv_iconst (v := 0) hx hb dX10_isTooGreat_31 (by decide) ?_
  refine x_ior (v := 0) hx hb dX10_isTooGreat_32 (by decide) ?_
  refine lv_istore_n (lv' := [(1, .int 0), (2, .int 6), (0, .ref q1)]) hx hb dX10_isTooGreat_33 rfl hl (by decide) rfl (fun ls hl => ?_)
  refine lv_iinc (v := 7) (lv' := [(2, .int 7), (1, .int 0), (0, .ref q1)]) hx hb dX10_isTooGreat_34 hl (k := 1) rfl (by decide) (by decide) rfl (fun ls hl => ?_)
  refine lv_goto (tgt := 8) hx hb dX10_isTooGreat_37 (by decide) ?_
  refine lv_iload_n hx hb dX10_isTooGreat_8 rfl (lv_at hl 0 rfl) ?_
  refine lv_bipush (v := 8) hx hb dX10_isTooGreat_9 (by decide) ?_
  refine lv_icmp_ge (tgt := 40) hx hb dX10_isTooGreat_11 (by decide) (fun h => absurd h (by decide)) (fun _ => ?_)
  refine lv_iload_n hx hb dX10_isTooGreat_14 rfl (lv_at hl 1 rfl) ?_
  refine lv_aload_n hx hb dX10_isTooGreat_15 rfl (lv_at hl 2 rfl) ?_
  refine gf_RX10_22 hx hb hown hE hP 3 rfl rfl dX10_isTooGreat_16 ?_
  refine lv_iload_n hx hb dX10_isTooGreat_19 rfl (lv_at hl 0 rfl) ?_
  refine x_iald (v := 0) hx hb hE hP 1 rfl 7 (x_in (by decide)) (by decide) hf59 dX10_isTooGreat_20 ?_
  refine lv_sipush (v := 20000) hx hb dX10_isTooGreat_21 (by decide) ?_
  refine lv_icmp_le (tgt := 31) hx hb dX10_isTooGreat_24 (by decide) (fun _ => ?_) (fun h => absurd (by decide) h)
  refine lv_iconst (v := 0) hx hb dX10_isTooGreat_31 (by decide) ?_
  refine x_ior (v := 0) hx hb dX10_isTooGreat_32 (by decide) ?_
  refine lv_istore_n (lv' := [(1, .int 0), (2, .int 7), (0, .ref q1)]) hx hb dX10_isTooGreat_33 rfl hl (by decide) rfl (fun ls hl => ?_)
  refine lv_iinc (v := 8) (lv' := [(2, .int 8), (1, .int 0), (0, .ref q1)]) hx hb dX10_isTooGreat_34 hl (k := 1) rfl (by decide) (by decide) rfl (fun ls hl => ?_)
  refine lv_goto (tgt := 8) hx hb dX10_isTooGreat_37 (by decide) ?_
  refine lv_iload_n hx hb dX10_isTooGreat_8 rfl (lv_at hl 0 rfl) ?_
  refine lv_bipush (v := 8) hx hb dX10_isTooGreat_9 (by decide) ?_
  refine lv_icmp_ge (tgt := 40) hx hb dX10_isTooGreat_11 (by decide) (fun _ => ?_) (fun h => absurd (by decide) h)
  refine lv_iconst (v := 0) hx hb dX10_isTooGreat_40 (by decide) ?_
  refine lv_istore_n (lv' := [(2, .int 0), (1, .int 0), (0, .ref q1)]) hx hb dX10_isTooGreat_41 rfl hl (by decide) rfl (fun ls hl => ?_)
  refine lv_iconst (v := 0) hx hb dX10_isTooGreat_42 (by decide) ?_
  refine lv_istore_n (lv' := [(3, .int 0), (2, .int 0), (1, .int 0), (0, .ref q1)]) hx hb dX10_isTooGreat_43 rfl hl (by decide) rfl (fun ls hl => ?_)
  refine lv_iload_n hx hb dX10_isTooGreat_44 rfl (lv_at hl 0 rfl) ?_
  refine lv_aload_n hx hb dX10_isTooGreat_45 rfl (lv_at hl 3 rfl) ?_
  refine gf_RX10_9 hx hb hown hE hP 3 rfl rfl dX10_isTooGreat_46 ?_
  refine lv_sipush (v := 392) hx hb dX10_isTooGreat_49 (by decide) ?_
  refine x_iald (v := 1) hx hb hE hP 2 rfl 392 (x_in (by decide)) (by decide) hf60 dX10_isTooGreat_52 ?_
  refine lv_icmp_ge (tgt := 115) hx hb dX10_isTooGreat_53 (by decide) (fun h => absurd h (by decide)) (fun _ => ?_)
  refine lv_iload_n hx hb dX10_isTooGreat_56 rfl (lv_at hl 2 rfl) ?_
  refine lv_aload_n hx hb dX10_isTooGreat_57 rfl (lv_at hl 3 rfl) ?_
  refine lv_iload_n hx hb dX10_isTooGreat_58 rfl (lv_at hl 0 rfl) ?_
  refine lv_iconst (v := 2) hx hb dX10_isTooGreat_59 (by decide) ?_
  refine g_i (wr := [(q41, .inl (g.2 0, 8, .inl f51)), (q40, .inl (g.2 0, 8, .inl f51))]) (rV (rest := [.int 0]) hx hb hml hown hE hP hD 3 rfl rfl (c1512_X10_ofClip l g q1 q39 x62 w3 w4 w5 w6 w7 w8 (.ref q40) (.ref q41) w11 w12 w13 w14 w15 w16 w17 w18 w19 w20 w21 w22 w23 w24 w25 w26 w27 w28 w29 w30 w31 w32 w33 w34 w35 w36 w37 w38 f42 (hf61) H.size) (kV_X10_ofClip hE (e1466 hE) rfl rfl ⟨(Nat.le_of_ble_eq_true rfl), (Nat.le_of_ble_eq_true rfl)⟩) [2, 3] rfl (by decide) rfl hl.1 rfl (lv_room (Nat.le_of_ble_eq_true rfl)) dX10_isTooGreat_60 ⟨(Nat.le_of_ble_eq_true rfl), (Nat.le_of_ble_eq_true rfl)⟩) hP hD hS hA [2, 3] [0, 1] rfl rfl (by decide) (by decide) (fun u2 H locs hP hD hS => ?_)
  have hP : va_P g.1 vwCl [(q41, .inl (g.2 0, 8, .inl f51)), (q40, .inl (g.2 0, 8, .inl f51)), (q39, .inl (g.2 0, 497, .inl f42)), (q1, .inr (12, [.ref q39, w3, w4, w5, w6, w7, w8, .ref q40, .ref q41, w11, w12, w13, w14, w15, w16, w17, w18, w19, w20, w21, w22, w23, w24, w25, w26, w27, w28, w29, w30, w31, w32, w33, w34, w35, w36, w37, w38]))] H := hP
  have hD : va_D A [(q41, .inl (g.2 0, 8, .inl f51)), (q40, .inl (g.2 0, 8, .inl f51)), (q39, .inl (g.2 0, 497, .inl f42)), (q1, .inr (12, [.ref q39, w3, w4, w5, w6, w7, w8, .ref q40, .ref q41, w11, w12, w13, w14, w15, w16, w17, w18, w19, w20, w21, w22, w23, w24, w25, w26, w27, w28, w29, w30, w31, w32, w33, w34, w35, w36, w37, w38]))] := hD
  refine lv_aload_n hx hb dX10_isTooGreat_63 rfl (lv_at hl 3 rfl) ?_
  refine gf_RX10_22 hx hb hown hE hP 3 rfl rfl dX10_isTooGreat_64 ?_
  refine lv_aload_n hx hb dX10_isTooGreat_67 rfl (lv_at hl 3 rfl) ?_
  refine lv_iload_n hx hb dX10_isTooGreat_68 rfl (lv_at hl 0 rfl) ?_
  refine lv_iconst (v := 1) hx hb dX10_isTooGreat_69 (by decide) ?_
  refine g_i (wr := [(q41, .inl (g.2 0, 8, .inl f51)), (q40, .inl (g.2 0, 8, .inl f51))]) (rV (rest := [.ref q40, .int x62, .int 0]) hx hb hml hown hE hP hD 3 rfl rfl (c1540_X10_ofClip l g q1 q39 w3 w4 w5 w6 w7 w8 (.ref q40) (.ref q41) w11 w12 w13 w14 w15 w16 w17 w18 w19 w20 w21 w22 w23 w24 w25 w26 w27 w28 w29 w30 w31 w32 w33 w34 w35 w36 w37 w38 f42 (hf63) H.size) (kV_X10_ofClip hE (e1466 hE) rfl rfl ⟨(Nat.le_of_ble_eq_true rfl), (Nat.le_of_ble_eq_true rfl)⟩) [2, 3] rfl (by decide) rfl hl.1 rfl (lv_room (Nat.le_of_ble_eq_true rfl)) dX10_isTooGreat_70 ⟨(Nat.le_of_ble_eq_true rfl), (Nat.le_of_ble_eq_true rfl)⟩) hP hD hS hA [2, 3] [0, 1] rfl rfl (by decide) (by decide) (fun u3 H locs hP hD hS => ?_)
  have hP : va_P g.1 vwCl [(q41, .inl (g.2 0, 8, .inl f51)), (q40, .inl (g.2 0, 8, .inl f51)), (q39, .inl (g.2 0, 497, .inl f42)), (q1, .inr (12, [.ref q39, w3, w4, w5, w6, w7, w8, .ref q40, .ref q41, w11, w12, w13, w14, w15, w16, w17, w18, w19, w20, w21, w22, w23, w24, w25, w26, w27, w28, w29, w30, w31, w32, w33, w34, w35, w36, w37, w38]))] H := hP
  have hD : va_D A [(q41, .inl (g.2 0, 8, .inl f51)), (q40, .inl (g.2 0, 8, .inl f51)), (q39, .inl (g.2 0, 497, .inl f42)), (q1, .inr (12, [.ref q39, w3, w4, w5, w6, w7, w8, .ref q40, .ref q41, w11, w12, w13, w14, w15, w16, w17, w18, w19, w20, w21, w22, w23, w24, w25, w26, w27, w28, w29, w30, w31, w32, w33, w34, w35, w36, w37, w38]))] := hD
  refine x_iald (v := 0) hx hb hE hP 1 rfl 3 (x_in (by decide)) (by decide) hf55 dX10_isTooGreat_73 ?_
  refine x_imul (v := 0) hx hb dX10_isTooGreat_74 (Int32.mul_zero) ?_
  refine lv_sipush (v := 20000) hx hb dX10_isTooGreat_75 (by decide) ?_
  refine lv_icmp_le (tgt := 85) hx hb dX10_isTooGreat_78 (by decide) (fun _ => ?_) (fun h => absurd (by decide) h)
  refine lv_iconst (v := 0) hx hb dX10_isTooGreat_85 (by decide) ?_
  refine x_ior (v := 0) hx hb dX10_isTooGreat_86 (by decide) ?_
  refine lv_istore_n (lv' := [(1, .int 0), (3, .int 0), (2, .int 0), (0, .ref q1)]) hx hb dX10_isTooGreat_87 rfl hl (by decide) rfl (fun ls hl => ?_)
  refine lv_iload_n hx hb dX10_isTooGreat_88 rfl (lv_at hl 2 rfl) ?_
  refine lv_aload_n hx hb dX10_isTooGreat_89 rfl (lv_at hl 3 rfl) ?_
  refine lv_iload_n hx hb dX10_isTooGreat_90 rfl (lv_at hl 1 rfl) ?_
  refine lv_iconst (v := 2) hx hb dX10_isTooGreat_91 (by decide) ?_
  refine g_i (wr := [(q41, .inl (g.2 0, 8, .inl f51)), (q40, .inl (g.2 0, 8, .inl f51))]) (rV (rest := [.int 0]) hx hb hml hown hE hP hD 3 rfl rfl (c1512_X10_ofClip l g q1 q39 x62 w3 w4 w5 w6 w7 w8 (.ref q40) (.ref q41) w11 w12 w13 w14 w15 w16 w17 w18 w19 w20 w21 w22 w23 w24 w25 w26 w27 w28 w29 w30 w31 w32 w33 w34 w35 w36 w37 w38 f42 (hf61) H.size) (kV_X10_ofClip hE (e1466 hE) rfl rfl ⟨(Nat.le_of_ble_eq_true rfl), (Nat.le_of_ble_eq_true rfl)⟩) [2, 3] rfl (by decide) rfl hl.1 rfl (lv_room (Nat.le_of_ble_eq_true rfl)) dX10_isTooGreat_92 ⟨(Nat.le_of_ble_eq_true rfl), (Nat.le_of_ble_eq_true rfl)⟩) hP hD hS hA [2, 3] [0, 1] rfl rfl (by decide) (by decide) (fun u4 H locs hP hD hS => ?_)
  have hP : va_P g.1 vwCl [(q41, .inl (g.2 0, 8, .inl f51)), (q40, .inl (g.2 0, 8, .inl f51)), (q39, .inl (g.2 0, 497, .inl f42)), (q1, .inr (12, [.ref q39, w3, w4, w5, w6, w7, w8, .ref q40, .ref q41, w11, w12, w13, w14, w15, w16, w17, w18, w19, w20, w21, w22, w23, w24, w25, w26, w27, w28, w29, w30, w31, w32, w33, w34, w35, w36, w37, w38]))] H := hP
  have hD : va_D A [(q41, .inl (g.2 0, 8, .inl f51)), (q40, .inl (g.2 0, 8, .inl f51)), (q39, .inl (g.2 0, 497, .inl f42)), (q1, .inr (12, [.ref q39, w3, w4, w5, w6, w7, w8, .ref q40, .ref q41, w11, w12, w13, w14, w15, w16, w17, w18, w19, w20, w21, w22, w23, w24, w25, w26, w27, w28, w29, w30, w31, w32, w33, w34, w35, w36, w37, w38]))] := hD
  refine lv_aload_n hx hb dX10_isTooGreat_95 rfl (lv_at hl 3 rfl) ?_
  refine gf_RX10_25 hx hb hown hE hP 3 rfl rfl dX10_isTooGreat_96 ?_
  refine lv_aload_n hx hb dX10_isTooGreat_99 rfl (lv_at hl 3 rfl) ?_
  refine lv_iload_n hx hb dX10_isTooGreat_100 rfl (lv_at hl 1 rfl) ?_
  refine lv_iconst (v := 1) hx hb dX10_isTooGreat_101 (by decide) ?_
  refine g_i (wr := [(q41, .inl (g.2 0, 8, .inl f51)), (q40, .inl (g.2 0, 8, .inl f51))]) (rV (rest := [.ref q41, .int x62, .int 0]) hx hb hml hown hE hP hD 3 rfl rfl (c1540_X10_ofClip l g q1 q39 w3 w4 w5 w6 w7 w8 (.ref q40) (.ref q41) w11 w12 w13 w14 w15 w16 w17 w18 w19 w20 w21 w22 w23 w24 w25 w26 w27 w28 w29 w30 w31 w32 w33 w34 w35 w36 w37 w38 f42 (hf63) H.size) (kV_X10_ofClip hE (e1466 hE) rfl rfl ⟨(Nat.le_of_ble_eq_true rfl), (Nat.le_of_ble_eq_true rfl)⟩) [2, 3] rfl (by decide) rfl hl.1 rfl (lv_room (Nat.le_of_ble_eq_true rfl)) dX10_isTooGreat_102 ⟨(Nat.le_of_ble_eq_true rfl), (Nat.le_of_ble_eq_true rfl)⟩) hP hD hS hA [2, 3] [0, 1] rfl rfl (by decide) (by decide) (fun u5 H locs hP hD hS => ?_)
  have hP : va_P g.1 vwCl [(q41, .inl (g.2 0, 8, .inl f51)), (q40, .inl (g.2 0, 8, .inl f51)), (q39, .inl (g.2 0, 497, .inl f42)), (q1, .inr (12, [.ref q39, w3, w4, w5, w6, w7, w8, .ref q40, .ref q41, w11, w12, w13, w14, w15, w16, w17, w18, w19, w20, w21, w22, w23, w24, w25, w26, w27, w28, w29, w30, w31, w32, w33, w34, w35, w36, w37, w38]))] H := hP
  have hD : va_D A [(q41, .inl (g.2 0, 8, .inl f51)), (q40, .inl (g.2 0, 8, .inl f51)), (q39, .inl (g.2 0, 497, .inl f42)), (q1, .inr (12, [.ref q39, w3, w4, w5, w6, w7, w8, .ref q40, .ref q41, w11, w12, w13, w14, w15, w16, w17, w18, w19, w20, w21, w22, w23, w24, w25, w26, w27, w28, w29, w30, w31, w32, w33, w34, w35, w36, w37, w38]))] := hD
  refine x_iald (v := 0) hx hb hE hP 0 rfl 3 (x_in (by decide)) (by decide) hf55 dX10_isTooGreat_105 ?_
  refine x_imul (v := 0) hx hb dX10_isTooGreat_106 (Int32.mul_zero) ?_
  refine x_iadd (v := 0) hx hb dX10_isTooGreat_107 (by decide) ?_
  refine lv_istore_n (lv' := [(2, .int 0), (1, .int 0), (3, .int 0), (0, .ref q1)]) hx hb dX10_isTooGreat_108 rfl hl (by decide) rfl (fun ls hl => ?_)
  refine lv_iinc (v := 1) (lv' := [(3, .int 1), (2, .int 0), (1, .int 0), (0, .ref q1)]) hx hb dX10_isTooGreat_109 hl (k := 2) rfl (by decide) (by decide) rfl (fun ls hl => ?_)
  refine lv_goto (tgt := 44) hx hb dX10_isTooGreat_112 (by decide) ?_
  refine lv_iload_n hx hb dX10_isTooGreat_44 rfl (lv_at hl 0 rfl) ?_
  refine lv_aload_n hx hb dX10_isTooGreat_45 rfl (lv_at hl 3 rfl) ?_
  refine gf_RX10_9 hx hb hown hE hP 3 rfl rfl dX10_isTooGreat_46 ?_
  refine lv_sipush (v := 392) hx hb dX10_isTooGreat_49 (by decide) ?_
  refine x_iald (v := 1) hx hb hE hP 2 rfl 392 (x_in (by decide)) (by decide) hf60 dX10_isTooGreat_52 ?_
  refine lv_icmp_ge (tgt := 115) hx hb dX10_isTooGreat_53 (by decide) (fun _ => ?_) (fun h => absurd (by decide) h)
  refine lv_iload_n hx hb dX10_isTooGreat_115 rfl (lv_at hl 2 rfl) ?_
  refine lv_if_ne (tgt := 126) hx hb dX10_isTooGreat_116 (by decide) (fun h => absurd h (by decide)) (fun _ => ?_)
  refine lv_iload_n hx hb dX10_isTooGreat_119 rfl (lv_at hl 1 rfl) ?_
  refine lv_sipush (v := 300) hx hb dX10_isTooGreat_120 (by decide) ?_
  refine lv_icmp_le (tgt := 130) hx hb dX10_isTooGreat_123 (by decide) (fun _ => ?_) (fun h => absurd (by decide) h)
  refine lv_iconst (v := 0) hx hb dX10_isTooGreat_130 (by decide) ?_
  exact x_zret hx hb hr rfl rfl hlocks hP hD hS hAe hsz (Nat.le_of_ble_eq_true rfl) (Nat.le_of_ble_eq_true rfl) (fun _ => 0) [0, 1, 2, 3] (by decide) rfl dX10_isTooGreat_131
