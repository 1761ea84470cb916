set_option maxHeartbeats 4000000 in
set_option maxRecDepth 100000 in
theorem c1646_L_count (l : Launch) (g : gG) (hlx : l.stackTraces = false) (q1 q2 q14 q18 q21 q22 q33 q34 q35 q36 q46 : Nat) (w4 w6 w7 w8 w9 w10 w12 w13 w17 w23 w25 w29 w30 w31 w32 w37 w38 w39 w40 w42 w43 : Value) (f19 : Nat → Option Nat) (f44 : Nat → Int64) (f47 : Nat → Int32) (hf20 : f19 0 = some q21) (sz : Nat) : Met l yL_count [Cond.codeWith yL_count cL_count 4 (some .int) [(0, 9, 12, 15)]] ({ frames := 5, cells := 0, slots := 0, locals := 116 } : Room) (va_Pc [.ref q1, .int 2, .ref q2] (PZ g sz [(q2, .inl (g.2 1, 1, .inr (.inl f44))), (q33, .inl (g.2 0, 300, .inl f47)), (q34, .inl (g.2 0, 8, .inl f47)), (q46, .inl (g.2 1, 300, .inr (.inl f44))), (q36, .inr (3, [.ref q46])), (q35, .inl (g.2 1, 300, .inr (.inl f44))), (q21, .inr (8, [w37, w38, w39, w40, .int 0, w42, w43])), (q22, .inr (7, [w23, .ref q33, w25, .ref q34, .ref q35, .ref q36, w29, w30, w31, w32])), (q18, .inl (g.2 3, 10, .inr (.inr (.inr (.inr f19))))), (q14, .inr (10, [.ref q18, .int 0, w17])), (q1, .inr (11, [.ref q14, w4, .ref q22, w6, w7, w8, w9, w10, .int 0, w12, w13]))])) (QI g [(q2, .inl (g.2 1, 1, .inr (.inl f44))), (q33, .inl (g.2 0, 300, .inl f47)), (q34, .inl (g.2 0, 8, .inl f47)), (q46, .inl (g.2 1, 300, .inr (.inl f44))), (q36, .inr (3, [.ref q46])), (q35, .inl (g.2 1, 300, .inr (.inl f44))), (q21, .inr (8, [w37, w38, w39, w40, .int 0, w42, w43])), (q22, .inr (7, [w23, .ref q33, w25, .ref q34, .ref q35, .ref q36, w29, w30, w31, w32])), (q18, .inl (g.2 3, 10, .inr (.inr (.inr (.inr f19))))), (q14, .inr (10, [.ref q18, .int 0, w17])), (q1, .inr (11, [.ref q14, w4, .ref q22, w6, w7, w8, w9, w10, .int 0, w12, w13]))] sz 0 (fun _ => [(q2, .inl (g.2 1, 1, .inr (.inl (vp_updL f44 0 0))))])) 0 0 (va_A [(q2, .inl (g.2 1, 1, .inr (.inl f44))), (q33, .inl (g.2 0, 300, .inl f47)), (q34, .inl (g.2 0, 8, .inl f47)), (q46, .inl (g.2 1, 300, .inr (.inl f44))), (q36, .inr (3, [.ref q46])), (q35, .inl (g.2 1, 300, .inr (.inl f44))), (q21, .inr (8, [w37, w38, w39, w40, .int 0, w42, w43])), (q22, .inr (7, [w23, .ref q33, w25, .ref q34, .ref q35, .ref q36, w29, w30, w31, w32])), (q18, .inl (g.2 3, 10, .inr (.inr (.inr (.inr f19))))), (q14, .inr (10, [.ref q18, .int 0, w17])), (q1, .inr (11, [.ref q14, w4, .ref q22, w6, w7, w8, w9, w10, .int 0, w12, w13]))] sz) := by
  refine ofH (by decide) (Nat.le_of_ble_eq_true rfl) rfl ?_
  intro p e s m args below meth c A ls hAe hsz hx hb hml hr hlocks hin hown hE hP hD hA hS hl htb hz
  have hown : s.vm.findClass RL = some m.cls := hown
  refine lv_aload_n hx hb dL_count_0 rfl (lv_at hl 2 rfl) ?_
  refine lv_iconst (v := 0) hx hb dL_count_1 (by decide) ?_
  refine lv_aload_n hx hb dL_count_2 rfl (lv_at hl 0 rfl) ?_
  refine lv_iload_n hx hb dL_count_3 rfl (lv_at hl 1 rfl) ?_
  refine g_i (wr := [(q2, .inl (g.2 1, 1, .inr (.inl f44)))]) (rV (rest := [.int 0, .ref q2]) hx hb hml hown hE hP hD 10 rfl rfl (c1645_X9_count l g q1 q14 q18 q21 q22 q33 q34 q35 q36 q46 w4 w6 w7 w8 w9 w10 w12 w13 w17 w23 w25 w29 w30 w31 w32 w37 w38 w39 w40 w42 w43 f19 f44 f47 (hf20) s.heap.size) (kV_X9_count hE (e852 hE) rfl rfl ⟨(Nat.le_of_ble_eq_true rfl), (Nat.le_of_ble_eq_true rfl)⟩) [1, 2, 3, 4, 5, 6, 7, 8, 9, 10] rfl (by decide) rfl hl.1 rfl (lv_room (Nat.le_of_ble_eq_true rfl)) dL_count_4 ⟨(Nat.le_of_ble_eq_true rfl), (Nat.le_of_ble_eq_true rfl)⟩) hP hD hS hA [1, 2, 3, 4, 5, 6, 7, 8, 9, 10] [0] rfl rfl (by decide) (by decide) (fun u1 H locs hP hD hS => ?_)
  have hP : va_P g.1 vwCl [(q2, .inl (g.2 1, 1, .inr (.inl f44))), (q1, .inr (11, [.ref q14, w4, .ref q22, w6, w7, w8, w9, w10, .int 1, w12, w13])), (q18, .inl (g.2 3, 10, .inr (.inr (.inr (.inr f19))))), (q14, .inr (10, [.ref q18, .int 0, w17])), (q21, .inr (8, [w37, w38, w39, w40, .int 0, w42, w43])), (q34, .inl (g.2 0, 8, .inl (fillF 8 (-1) f47))), (q33, .inl (g.2 0, 300, .inl (fillF 300 (-1) f47))), (q46, .inl (g.2 1, 300, .inr (.inl f44))), (q36, .inr (3, [.ref q46])), (q35, .inl (g.2 1, 300, .inr (.inl f44))), (q22, .inr (7, [w23, .ref q33, w25, .ref q34, .ref q35, .ref q36, .int 0, .int 0, .int 0, .int 0]))] H := hP
  have hD : va_D A [(q2, .inl (g.2 1, 1, .inr (.inl f44))), (q1, .inr (11, [.ref q14, w4, .ref q22, w6, w7, w8, w9, w10, .int 1, w12, w13])), (q18, .inl (g.2 3, 10, .inr (.inr (.inr (.inr f19))))), (q14, .inr (10, [.ref q18, .int 0, w17])), (q21, .inr (8, [w37, w38, w39, w40, .int 0, w42, w43])), (q34, .inl (g.2 0, 8, .inl (fillF 8 (-1) f47))), (q33, .inl (g.2 0, 300, .inl (fillF 300 (-1) f47))), (q46, .inl (g.2 1, 300, .inr (.inl f44))), (q36, .inr (3, [.ref q46])), (q35, .inl (g.2 1, 300, .inr (.inl f44))), (q22, .inr (7, [w23, .ref q33, w25, .ref q34, .ref q35, .ref q36, .int 0, .int 0, .int 0, .int 0]))] := hD
  refine lv_i2l (v := 0) hx hb dL_count_7 (by decide) ?_
  refine x_last (ws' := [(q2, .inl (g.2 1, 1, .inr (.inl (vp_updL f44 0 0)))), (q1, .inr (11, [.ref q14, w4, .ref q22, w6, w7, w8, w9, w10, .int 1, w12, w13])), (q18, .inl (g.2 3, 10, .inr (.inr (.inr (.inr f19))))), (q14, .inr (10, [.ref q18, .int 0, w17])), (q21, .inr (8, [w37, w38, w39, w40, .int 0, w42, w43])), (q34, .inl (g.2 0, 8, .inl (fillF 8 (-1) f47))), (q33, .inl (g.2 0, 300, .inl (fillF 300 (-1) f47))), (q46, .inl (g.2 1, 300, .inr (.inl f44))), (q36, .inr (3, [.ref q46])), (q35, .inl (g.2 1, 300, .inr (.inl f44))), (q22, .inr (7, [w23, .ref q33, w25, .ref q34, .ref q35, .ref q36, .int 0, .int 0, .int 0, .int 0]))]) hx hb hE hP hD hS 0 rfl 0 (x_in (by decide)) (by decide) dL_count_8 rfl (fun H locs hP hD hS => ?_)
  refine lv_goto (tgt := 15) hx hb dL_count_9 (by decide) ?_
  refine lv_iconst (v := 0) hx hb dL_count_15 (by decide) ?_
  exact x_zret hx hb hr rfl rfl hlocks hP hD hS hAe hsz (Nat.le_of_ble_eq_true rfl) (Nat.le_of_ble_eq_true rfl) (fun _ => 0) [0] (by decide) rfl dL_count_16

set_option maxHeartbeats 4000000 in
set_option maxRecDepth 100000 in
theorem c1647_X10_in (l : Launch) (g : gG) (sz : Nat) : Met l yX10_in [Cond.code yX10_in cX10_in 3 (some .boolean)] ({ frames := 0, cells := 0, slots := 0, locals := 0 } : Room) (va_Pc [.int 2, .int 0, .int 8] (PX g sz [])) (QI g [] sz 1 (fun _ => [])) 0 0 (va_A [] sz) := by
  refine ofN (by decide) (Nat.le_of_ble_eq_true rfl) rfl ?_
  intro p e s m args below meth c A ls hAe hsz hx hb hml hr hlocks hin hown hE hP hD hA hS hl
  have hown : s.vm.findClass RX10 = some m.cls := hown
  refine lv_iload_n hx hb dX10_in_0 rfl (lv_at hl 0 rfl) ?_
  refine lv_iload_n hx hb dX10_in_1 rfl (lv_at hl 1 rfl) ?_
  refine lv_icmp_lt (tgt := 14) hx hb dX10_in_2 (by decide) (fun h => absurd h (by decide)) (fun _ => ?_)
  refine lv_iload_n hx hb dX10_in_5 rfl (lv_at hl 0 rfl) ?_
  refine lv_iload_n hx hb dX10_in_6 rfl (lv_at hl 2 rfl) ?_
  refine lv_icmp_gt (tgt := 14) hx hb dX10_in_7 (by decide) (fun h => absurd h (by decide)) (fun _ => ?_)
  refine lv_iconst (v := 1) hx hb dX10_in_10 (by decide) ?_
  refine lv_goto (tgt := 15) hx hb dX10_in_11 (by decide) ?_
  exact x_zret hx hb hr rfl rfl hlocks hP hD hS hAe hsz (Nat.le_of_ble_eq_true rfl) (Nat.le_of_ble_eq_true rfl) (fun _ => 0) [] (by decide) rfl dX10_in_15

set_option maxHeartbeats 4000000 in
set_option maxRecDepth 100000 in
theorem c1648_X10_count (l : Launch) (g : gG) (q1 q39 q40 q41 q42 : Nat) (w3 w4 w5 w6 w7 w8 w11 w12 w13 w14 w15 w16 w17 w18 w19 w20 w21 w22 w23 w24 w25 w26 w28 w29 w30 w31 w32 w33 w34 w35 w36 w37 w38 : Value) (f43 : Nat → Int32) (f53 : Nat → Int32) (hf44 : f43 0 = 0) (hf45 : f43 49 = 0) (hf46 : f43 98 = 0) (hf47 : f43 147 = 0) (hf48 : f43 196 = 0) (hf49 : f43 245 = 0) (hf50 : f43 294 = 0) (hf51 : f43 343 = 0) (hf52 : f43 392 = 0) (hf54 : f53 0 = 0) (hf55 : f53 1 = 0) (hf56 : f53 2 = 0) (hf57 : f53 3 = 0) (hf58 : f53 4 = 0) (hf59 : f53 5 = 0) (hf60 : f53 6 = 0) (hf61 : f53 7 = 0) (sz : Nat) : Met l yX10_count [Cond.code yX10_count cX10_count 6 (some .int)] ({ frames := 4, cells := 0, slots := 0, locals := 89 } : Room) (va_Pc [.ref q1, .int 2] (PX g sz [(q42, .inl (g.2 0, 8, .inl f53)), (q41, .inl (g.2 0, 8, .inl f53)), (q40, .inl (g.2 0, 8, .inl f53)), (q39, .inl (g.2 0, 497, .inl f43)), (q1, .inr (12, [.ref q39, w3, w4, w5, w6, w7, w8, .ref q40, .ref q41, w11, w12, w13, w14, w15, w16, w17, w18, w19, w20, w21, w22, w23, w24, w25, w26, .ref q42, w28, w29, w30, w31, w32, w33, w34, w35, w36, w37, w38]))])) (QI g [(q42, .inl (g.2 0, 8, .inl f53)), (q41, .inl (g.2 0, 8, .inl f53)), (q40, .inl (g.2 0, 8, .inl f53)), (q39, .inl (g.2 0, 497, .inl f43)), (q1, .inr (12, [.ref q39, w3, w4, w5, w6, w7, w8, .ref q40, .ref q41, w11, w12, w13, w14, w15, w16, w17, w18, w19, w20, w21, w22, w23, w24, w25, w26, .ref q42, w28, w29, w30, w31, w32, w33, w34, w35, w36, w37, w38]))] sz 0 (fun _ => [(q1, .inr (12, [.ref q39, w3, w4, w5, w6, w7, .int 0, .ref q40, .ref q41, w11, w12, w13, w14, w15, .int 0, w17, w18, w19, w20, w21, w22, w23, w24, w25, w26, .ref q42, w28, w29, w30, w31, w32, w33, w34, w35, w36, w37, w38]))])) 0 0 (va_A [(q42, .inl (g.2 0, 8, .inl f53)), (q41, .inl (g.2 0, 8, .inl f53)), (q40, .inl (g.2 0, 8, .inl f53)), (q39, .inl (g.2 0, 497, .inl f43)), (q1, .inr (12, [.ref q39, w3, w4, w5, w6, w7, w8, .ref q40, .ref q41, w11, w12, w13, w14, w15, w16, w17, w18, w19, w20, w21, w22, w23, w24, w25, w26, .ref q42, w28, w29, w30, w31, w32, w33, w34, w35, w36, w37, w38]))] sz) := by
  refine ofN (by decide) (Nat.le_of_ble_eq_true rfl) rfl ?_
  intro p e s m args below meth c A ls hAe hsz hx hb hml hr hlocks hin hown hE hP hD hA hS hl
  have hown : s.vm.findClass RX10 = some m.cls := hown
  refine lv_aload_n hx hb dX10_count_0 rfl (lv_at hl 0 rfl) ?_
  refine lv_iconst (v := 0) hx hb dX10_count_1 (by decide) ?_
  refine pf_RX10_86 (ws' := [(q42, .inl (g.2 0, 8, .inl f53)), (q41, .inl (g.2 0, 8, .inl f53)), (q40, .inl (g.2 0, 8, .inl f53)), (q39, .inl (g.2 0, 497, .inl f43)), (q1, .inr (12, [.ref q39, w3, w4, w5, w6, w7, .int 0, .ref q40, .ref q41, w11, w12, w13, w14, w15, w16, w17, w18, w19, w20, w21, w22, w23, w24, w25, w26, .ref q42, w28, w29, w30, w31, w32, w33, w34, w35, w36, w37, w38]))]) hx hb hown hE hP hD hS 4 rfl rfl rfl (Nat.le_of_ble_eq_true rfl) dX10_count_2 rfl (fun H locs hP hD hS => ?_)
  refine lv_iload_n hx hb dX10_count_5 rfl (lv_at hl 1 rfl) ?_
  refine lv_iconst (v := 0) hx hb dX10_count_6 (by decide) ?_
  refine lv_bipush (v := 8) hx hb dX10_count_7 (by decide) ?_
  refine g0_i (rS (rest := []) hx hb hml hown hE hP hD (c1647_X10_in l g H.size) (kS_X10_in hE (e1431 hE) rfl rfl ⟨(Nat.le_of_ble_eq_true rfl), (Nat.le_of_ble_eq_true rfl)⟩) [] rfl (by decide) rfl hl.1 rfl (lv_room (Nat.le_of_ble_eq_true rfl)) dX10_count_9 ⟨(Nat.le_of_ble_eq_true rfl), (Nat.le_of_ble_eq_true rfl)⟩) hP hD hS hA (fun u9 H locs hP hS => ?_)
  refine lv_if_ne (tgt := 21) hx hb dX10_count_12 (by decide) (fun _ => ?_) (fun h => absurd h (by decide))
  refine lv_aload_n hx hb dX10_count_21 rfl (lv_at hl 0 rfl) ?_
  refine g_v (wr := []) (rV (rest := []) hx hb hml hown hE hP hD 4 rfl rfl (c1632_X10_layNotes l g q1 q39 q40 q41 q42 w3 w4 w5 w6 w7 (.int 0) w11 w12 w13 w14 w15 w16 w17 w18 w19 w20 w21 w22 w23 w24 w25 w26 w28 w29 w30 w31 w32 w33 w34 w35 w36 w37 w38 f43 f53 (hf44) (hf45) (hf46) (hf47) (hf48) (hf49) (hf50) (hf51) (hf54) (hf55) (hf56) (hf57) (hf58) (hf59) (hf60) (hf61) (hf52) H.size) (kV_X10_layNotes hE (e1543 hE) rfl rfl ⟨(Nat.le_of_ble_eq_true rfl), (Nat.le_of_ble_eq_true rfl)⟩) [0, 1, 2, 3, 4] rfl (by decide) rfl hl.1 rfl (lv_room (Nat.le_of_ble_eq_true rfl)) dX10_count_22 ⟨(Nat.le_of_ble_eq_true rfl), (Nat.le_of_ble_eq_true rfl)⟩) hP hD hS hA [0, 1, 2, 3, 4] [] rfl rfl (by decide) (by decide) (fun u2 H locs hP hD hS => ?_)
  have hP : va_P g.1 vwCl [(q41, .inl (g.2 0, 8, .inl f53)), (q40, .inl (g.2 0, 8, .inl f53)), (q39, .inl (g.2 0, 497, .inl f43)), (q42, .inl (g.2 0, 8, .inl (upd (upd (upd (upd (upd (upd (upd (upd f53 0 (-1)) 1 (-1)) 2 (-1)) 3 (-1)) 4 (-1)) 5 (-1)) 6 (-1)) 7 (-1)))), (q1, .inr (12, [.ref q39, w3, w4, w5, w6, w7, .int 0, .ref q40, .ref q41, w11, w12, w13, w14, w15, .int 0, w17, w18, w19, w20, w21, w22, w23, w24, w25, w26, .ref q42, w28, w29, w30, w31, w32, w33, w34, w35, w36, w37, w38]))] H := hP
  have hD : va_D A [(q41, .inl (g.2 0, 8, .inl f53)), (q40, .inl (g.2 0, 8, .inl f53)), (q39, .inl (g.2 0, 497, .inl f43)), (q42, .inl (g.2 0, 8, .inl (upd (upd (upd (upd (upd (upd (upd (upd f53 0 (-1)) 1 (-1)) 2 (-1)) 3 (-1)) 4 (-1)) 5 (-1)) 6 (-1)) 7 (-1)))), (q1, .inr (12, [.ref q39, w3, w4, w5, w6, w7, .int 0, .ref q40, .ref q41, w11, w12, w13, w14, w15, .int 0, w17, w18, w19, w20, w21, w22, w23, w24, w25, w26, .ref q42, w28, w29, w30, w31, w32, w33, w34, w35, w36, w37, w38]))] := hD
  refine lv_iconst (v := 0) hx hb dX10_count_25 (by decide) ?_
  refine lv_istore_n (lv' := [(2, .int 0), (0, .ref q1), (1, .int 2)]) hx hb dX10_count_26 rfl hl (by decide) rfl (fun ls hl => ?_)
  refine lv_iconst (v := 0) hx hb dX10_count_27 (by decide) ?_
  refine lv_istore_n (lv' := [(3, .int 0), (2, .int 0), (0, .ref q1), (1, .int 2)]) hx hb dX10_count_28 rfl hl (by decide) rfl (fun ls hl => ?_)
  refine lv_iconst (v := 0) hx hb dX10_count_29 (by decide) ?_
  refine lv_istore (lv' := [(4, .int 0), (3, .int 0), (2, .int 0), (0, .ref q1), (1, .int 2)]) hx hb dX10_count_30 hl (by decide) rfl (fun ls hl => ?_)
  refine lv_iconst (v := 0) hx hb dX10_count_32 (by decide) ?_
  refine lv_istore (lv' := [(5, .int 0), (4, .int 0), (3, .int 0), (2, .int 0), (0, .ref q1), (1, .int 2)]) hx hb dX10_count_33 hl (by decide) rfl (fun ls hl => ?_)
  refine lv_iload hx hb dX10_count_35 (lv_at hl 0 rfl) ?_
  refine lv_aload_n hx hb dX10_count_37 rfl (lv_at hl 4 rfl) ?_
  refine gf_RX10_176 hx hb hown hE hP 4 rfl rfl dX10_count_38 ?_
  refine lv_icmp_ge (tgt := 100) hx hb dX10_count_41 (by decide) (fun _ => ?_) (fun h => absurd (by decide) h)
  refine lv_iload_n hx hb dX10_count_100 rfl (lv_at hl 5 rfl) ?_
  refine lv_tableIn (tgt := 162) hx hb dX10_count_101 (by decide) (by decide) rfl (by decide) ?_
  refine lv_iload_n hx hb dX10_count_162 rfl (lv_at hl 3 rfl) ?_
  exact x_zret hx hb hr rfl rfl hlocks hP hD hS hAe hsz (Nat.le_of_ble_eq_true rfl) (Nat.le_of_ble_eq_true rfl) (fun _ => 0) [4] (by decide) rfl dX10_count_163

set_option maxHeartbeats 4000000 in
set_option maxRecDepth 100000 in
theorem c1649_X5_cutCount (l : Launch) (g : gG) (q1 : Nat) (w2 w3 w4 w5 w6 w7 w8 w9 w11 : Value) (sz : Nat) : Met l yX5_cutCount [Cond.code yX5_cutCount cX5_cutCount 1 (some .int)] ({ frames := 0, cells := 0, slots := 0, locals := 0 } : Room) (va_Pc [.ref q1] (PX g sz [(q1, .inr (7, [w2, w3, w4, w5, w6, w7, w8, w9, .int 0, w11]))])) (QI g [(q1, .inr (7, [w2, w3, w4, w5, w6, w7, w8, w9, .int 0, w11]))] sz 0 (fun _ => [(q1, .inr (7, [w2, w3, w4, w5, w6, w7, w8, w9, .int 0, w11]))])) 0 0 (va_A [(q1, .inr (7, [w2, w3, w4, w5, w6, w7, w8, w9, .int 0, w11]))] sz) := by
  refine ofN (by decide) (Nat.le_of_ble_eq_true rfl) rfl ?_
  intro p e s m args below meth c A ls hAe hsz hx hb hml hr hlocks hin hown hE hP hD hA hS hl
  have hown : s.vm.findClass RX5 = some m.cls := hown
  refine lv_aload_n hx hb dX5_cutCount_0 rfl (lv_at hl 0 rfl) ?_
  refine gf_RX5_44 hx hb hown hE hP 0 rfl rfl dX5_cutCount_1 ?_
  exact x_zret hx hb hr rfl rfl hlocks hP hD hS hAe hsz (Nat.le_of_ble_eq_true rfl) (Nat.le_of_ble_eq_true rfl) (fun _ => 0) [0] (by decide) rfl dX5_cutCount_4

set_option maxHeartbeats 4000000 in
set_option maxRecDepth 100000 in
theorem c1650_X9_count (l : Launch) (g : gG) (q1 q13 q17 q20 q21 q32 q33 q34 q35 q45 : Nat) (w3 w5 w6 w7 w8 w9 w11 w12 w16 w22 w24 w28 w29 w30 w31 w36 w37 w38 w39 w41 w42 : Value) (f18 : Nat → Option Nat) (f43 : Nat → Int64) (f46 : Nat → Int32) (hf19 : f18 0 = some q20) (sz : Nat) : Met l yX9_count [Cond.code yX9_count cX9_count 3 (some .int)] ({ frames := 4, cells := 0, slots := 0, locals := 94 } : Room) (va_Pc [.ref q1, .int 3] (PX g sz [(q32, .inl (g.2 0, 300, .inl f46)), (q33, .inl (g.2 0, 8, .inl f46)), (q45, .inl (g.2 1, 300, .inr (.inl f43))), (q35, .inr (3, [.ref q45])), (q34, .inl (g.2 1, 300, .inr (.inl f43))), (q20, .inr (8, [w36, w37, w38, w39, .int 0, w41, w42])), (q21, .inr (7, [w22, .ref q32, w24, .ref q33, .ref q34, .ref q35, w28, w29, w30, w31])), (q17, .inl (g.2 3, 10, .inr (.inr (.inr (.inr f18))))), (q13, .inr (10, [.ref q17, .int 0, w16])), (q1, .inr (11, [.ref q13, w3, .ref q21, w5, w6, w7, w8, w9, .int 0, w11, w12]))])) (QI g [(q32, .inl (g.2 0, 300, .inl f46)), (q33, .inl (g.2 0, 8, .inl f46)), (q45, .inl (g.2 1, 300, .inr (.inl f43))), (q35, .inr (3, [.ref q45])), (q34, .inl (g.2 1, 300, .inr (.inl f43))), (q20, .inr (8, [w36, w37, w38, w39, .int 0, w41, w42])), (q21, .inr (7, [w22, .ref q32, w24, .ref q33, .ref q34, .ref q35, w28, w29, w30, w31])), (q17, .inl (g.2 3, 10, .inr (.inr (.inr (.inr f18))))), (q13, .inr (10, [.ref q17, .int 0, w16])), (q1, .inr (11, [.ref q13, w3, .ref q21, w5, w6, w7, w8, w9, .int 0, w11, w12]))] sz 0 (fun _ => [(q1, .inr (11, [.ref q13, w3, .ref q21, w5, w6, w7, w8, w9, .int 1, w11, w12])), (q17, .inl (g.2 3, 10, .inr (.inr (.inr (.inr f18))))), (q13, .inr (10, [.ref q17, .int 0, w16])), (q20, .inr (8, [w36, w37, w38, w39, .int 0, w41, w42])), (q33, .inl (g.2 0, 8, .inl (fillF 8 (-1) f46))), (q32, .inl (g.2 0, 300, .inl (fillF 300 (-1) f46))), (q45, .inl (g.2 1, 300, .inr (.inl f43))), (q35, .inr (3, [.ref q45])), (q34, .inl (g.2 1, 300, .inr (.inl f43))), (q21, .inr (7, [w22, .ref q32, w24, .ref q33, .ref q34, .ref q35, .int 0, .int 0, .int 0, .int 0]))])) 0 0 (va_A [(q32, .inl (g.2 0, 300, .inl f46)), (q33, .inl (g.2 0, 8, .inl f46)), (q45, .inl (g.2 1, 300, .inr (.inl f43))), (q35, .inr (3, [.ref q45])), (q34, .inl (g.2 1, 300, .inr (.inl f43))), (q20, .inr (8, [w36, w37, w38, w39, .int 0, w41, w42])), (q21, .inr (7, [w22, .ref q32, w24, .ref q33, .ref q34, .ref q35, w28, w29, w30, w31])), (q17, .inl (g.2 3, 10, .inr (.inr (.inr (.inr f18))))), (q13, .inr (10, [.ref q17, .int 0, w16])), (q1, .inr (11, [.ref q13, w3, .ref q21, w5, w6, w7, w8, w9, .int 0, w11, w12]))] sz) := by
  refine ofN (by decide) (Nat.le_of_ble_eq_true rfl) rfl ?_
  intro p e s m args below meth c A ls hAe hsz hx hb hml hr hlocks hin hown hE hP hD hA hS hl
  have hown : s.vm.findClass RX9 = some m.cls := hown
  refine lv_aload_n hx hb dX9_count_0 rfl (lv_at hl 0 rfl) ?_
  refine gf_RX9_12 hx hb hown hE hP 9 rfl rfl dX9_count_1 ?_
  refine g_r (wr := [(q32, .inl (g.2 0, 300, .inl f46)), (q33, .inl (g.2 0, 8, .inl f46)), (q45, .inl (g.2 1, 300, .inr (.inl f43))), (q35, .inr (3, [.ref q45])), (q34, .inl (g.2 1, 300, .inr (.inl f43))), (q20, .inr (8, [w36, w37, w38, w39, .int 0, w41, w42])), (q21, .inr (7, [w22, .ref q32, w24, .ref q33, .ref q34, .ref q35, w28, w29, w30, w31])), (q1, .inr (11, [.ref q13, w3, .ref q21, w5, w6, w7, w8, w9, .int 0, w11, w12]))]) (rV (rest := []) hx hb hml hown hE hP hD 8 rfl rfl (c71_X8_current l g q13 q17 q20 w16 f18 (hf19) s.heap.size) (kV_X8_current hE (e290 hE) rfl rfl ⟨(Nat.le_of_ble_eq_true rfl), (Nat.le_of_ble_eq_true rfl)⟩) [7, 8] rfl (by decide) rfl hl.1 rfl (lv_room (Nat.le_of_ble_eq_true rfl)) dX9_count_4 ⟨(Nat.le_of_ble_eq_true rfl), (Nat.le_of_ble_eq_true rfl)⟩) hP hD hS hA [7, 8] [0, 1, 2, 3, 4, 5, 6, 9] rfl rfl (by decide) (by decide) (fun u1 H locs hP hD hS => ?_)
  have hP : va_P g.1 vwCl [(q32, .inl (g.2 0, 300, .inl f46)), (q33, .inl (g.2 0, 8, .inl f46)), (q45, .inl (g.2 1, 300, .inr (.inl f43))), (q35, .inr (3, [.ref q45])), (q34, .inl (g.2 1, 300, .inr (.inl f43))), (q20, .inr (8, [w36, w37, w38, w39, .int 0, w41, w42])), (q21, .inr (7, [w22, .ref q32, w24, .ref q33, .ref q34, .ref q35, w28, w29, w30, w31])), (q1, .inr (11, [.ref q13, w3, .ref q21, w5, w6, w7, w8, w9, .int 0, w11, w12])), (q17, .inl (g.2 3, 10, .inr (.inr (.inr (.inr f18))))), (q13, .inr (10, [.ref q17, .int 0, w16]))] H := hP
  have hD : va_D A [(q32, .inl (g.2 0, 300, .inl f46)), (q33, .inl (g.2 0, 8, .inl f46)), (q45, .inl (g.2 1, 300, .inr (.inl f43))), (q35, .inr (3, [.ref q45])), (q34, .inl (g.2 1, 300, .inr (.inl f43))), (q20, .inr (8, [w36, w37, w38, w39, .int 0, w41, w42])), (q21, .inr (7, [w22, .ref q32, w24, .ref q33, .ref q34, .ref q35, w28, w29, w30, w31])), (q1, .inr (11, [.ref q13, w3, .ref q21, w5, w6, w7, w8, w9, .int 0, w11, w12])), (q17, .inl (g.2 3, 10, .inr (.inr (.inr (.inr f18))))), (q13, .inr (10, [.ref q17, .int 0, w16]))] := hD
  refine lv_astore_n (lv' := [(2, .ref q20), (0, .ref q1), (1, .int 3)]) hx hb dX9_count_7 rfl hl (by decide) rfl (fun ls hl => ?_)
  refine lv_iload_n hx hb dX9_count_8 rfl (lv_at hl 2 rfl) ?_
  refine lv_tableIn (tgt := 81) hx hb dX9_count_9 (by decide) (by decide) rfl (by decide) ?_
  refine lv_aload_n hx hb dX9_count_81 rfl (lv_at hl 1 rfl) ?_
  refine g_r (wr := []) (rV (rest := []) hx hb hml hown hE hP hD 7 rfl rfl (c1638_X9_upToDateScore l g q1 q13 q17 q20 q21 q35 q34 q45 q33 q32 w3 w5 w6 w7 w8 w9 w11 w12 w16 w22 w24 w28 w29 w30 w31 w36 w37 w38 w39 w41 w42 f18 f43 f46 (hf19) H.size) (kV_X9_upToDateScore hE (e318 hE) rfl rfl ⟨(Nat.le_of_ble_eq_true rfl), (Nat.le_of_ble_eq_true rfl)⟩) [0, 1, 2, 3, 4, 5, 6, 8, 9, 7] rfl (by decide) rfl hl.1 rfl (lv_room (Nat.le_of_ble_eq_true rfl)) dX9_count_82 ⟨(Nat.le_of_ble_eq_true rfl), (Nat.le_of_ble_eq_true rfl)⟩) hP hD hS hA [0, 1, 2, 3, 4, 5, 6, 8, 9, 7] [] rfl rfl (by decide) (by decide) (fun u2 H locs hP hD hS => ?_)
  have hP : va_P g.1 vwCl [(q1, .inr (11, [.ref q13, w3, .ref q21, w5, w6, w7, w8, w9, .int 1, w11, w12])), (q17, .inl (g.2 3, 10, .inr (.inr (.inr (.inr f18))))), (q13, .inr (10, [.ref q17, .int 0, w16])), (q20, .inr (8, [w36, w37, w38, w39, .int 0, w41, w42])), (q21, .inr (7, [w22, .ref q32, w24, .ref q33, .ref q34, .ref q35, .int 0, .int 0, .int 0, .int 0])), (q33, .inl (g.2 0, 8, .inl (fillF 8 (-1) f46))), (q32, .inl (g.2 0, 300, .inl (fillF 300 (-1) f46))), (q45, .inl (g.2 1, 300, .inr (.inl f43))), (q35, .inr (3, [.ref q45])), (q34, .inl (g.2 1, 300, .inr (.inl f43)))] H := hP
  have hD : va_D A [(q1, .inr (11, [.ref q13, w3, .ref q21, w5, w6, w7, w8, w9, .int 1, w11, w12])), (q17, .inl (g.2 3, 10, .inr (.inr (.inr (.inr f18))))), (q13, .inr (10, [.ref q17, .int 0, w16])), (q20, .inr (8, [w36, w37, w38, w39, .int 0, w41, w42])), (q21, .inr (7, [w22, .ref q32, w24, .ref q33, .ref q34, .ref q35, .int 0, .int 0, .int 0, .int 0])), (q33, .inl (g.2 0, 8, .inl (fillF 8 (-1) f46))), (q32, .inl (g.2 0, 300, .inl (fillF 300 (-1) f46))), (q45, .inl (g.2 1, 300, .inr (.inl f43))), (q35, .inr (3, [.ref q45])), (q34, .inl (g.2 1, 300, .inr (.inl f43)))] := hD
  refine g_i (wr := [(q1, .inr (11, [.ref q13, w3, .ref q21, w5, w6, w7, w8, w9, .int 1, w11, w12])), (q17, .inl (g.2 3, 10, .inr (.inr (.inr (.inr f18))))), (q13, .inr (10, [.ref q17, .int 0, w16])), (q20, .inr (8, [w36, w37, w38, w39, .int 0, w41, w42])), (q33, .inl (g.2 0, 8, .inl (fillF 8 (-1) f46))), (q32, .inl (g.2 0, 300, .inl (fillF 300 (-1) f46))), (q45, .inl (g.2 1, 300, .inr (.inl f43))), (q35, .inr (3, [.ref q45])), (q34, .inl (g.2 1, 300, .inr (.inl f43)))]) (rV (rest := []) hx hb hml hown hE hP hD 4 rfl rfl (c1649_X5_cutCount l g q21 w22 (.ref q32) w24 (.ref q33) (.ref q34) (.ref q35) (.int 0) (.int 0) (.int 0) H.size) (kV_X5_cutCount hE (e861 hE) rfl rfl ⟨(Nat.le_of_ble_eq_true rfl), (Nat.le_of_ble_eq_true rfl)⟩) [4] rfl (by decide) rfl hl.1 rfl (lv_room (Nat.le_of_ble_eq_true rfl)) dX9_count_85 ⟨(Nat.le_of_ble_eq_true rfl), (Nat.le_of_ble_eq_true rfl)⟩) hP hD hS hA [4] [0, 1, 2, 3, 5, 6, 7, 8, 9] rfl rfl (by decide) (by decide) (fun u3 H locs hP hD hS => ?_)
  have hP : va_P g.1 vwCl [(q1, .inr (11, [.ref q13, w3, .ref q21, w5, w6, w7, w8, w9, .int 1, w11, w12])), (q17, .inl (g.2 3, 10, .inr (.inr (.inr (.inr f18))))), (q13, .inr (10, [.ref q17, .int 0, w16])), (q20, .inr (8, [w36, w37, w38, w39, .int 0, w41, w42])), (q33, .inl (g.2 0, 8, .inl (fillF 8 (-1) f46))), (q32, .inl (g.2 0, 300, .inl (fillF 300 (-1) f46))), (q45, .inl (g.2 1, 300, .inr (.inl f43))), (q35, .inr (3, [.ref q45])), (q34, .inl (g.2 1, 300, .inr (.inl f43))), (q21, .inr (7, [w22, .ref q32, w24, .ref q33, .ref q34, .ref q35, .int 0, .int 0, .int 0, .int 0]))] H := hP
  have hD : va_D A [(q1, .inr (11, [.ref q13, w3, .ref q21, w5, w6, w7, w8, w9, .int 1, w11, w12])), (q17, .inl (g.2 3, 10, .inr (.inr (.inr (.inr f18))))), (q13, .inr (10, [.ref q17, .int 0, w16])), (q20, .inr (8, [w36, w37, w38, w39, .int 0, w41, w42])), (q33, .inl (g.2 0, 8, .inl (fillF 8 (-1) f46))), (q32, .inl (g.2 0, 300, .inl (fillF 300 (-1) f46))), (q45, .inl (g.2 1, 300, .inr (.inl f43))), (q35, .inr (3, [.ref q45])), (q34, .inl (g.2 1, 300, .inr (.inl f43))), (q21, .inr (7, [w22, .ref q32, w24, .ref q33, .ref q34, .ref q35, .int 0, .int 0, .int 0, .int 0]))] := hD
  exact x_zret hx hb hr rfl rfl hlocks hP hD hS hAe hsz (Nat.le_of_ble_eq_true rfl) (Nat.le_of_ble_eq_true rfl) (fun _ => 0) [0, 1, 2, 3, 4, 5, 6, 7, 8, 9] (by decide) rfl dX9_count_88

set_option maxHeartbeats 4000000 in
set_option maxRecDepth 100000 in
theorem c1651_L_count (l : Launch) (g : gG) (hlx : l.stackTraces = false) (q1 q2 q14 q18 q21 q22 q33 q34 q35 q36 q46 : Nat) (w4 w6 w7 w8 w9 w10 w12 w13 w17 w23 w25 w29 w30 w31 w32 w37 w38 w39 w40 w42 w43 : Value) (f19 : Nat → Option Nat) (f44 : Nat → Int64) (f47 : Nat → Int32) (hf20 : f19 0 = some q21) (sz : Nat) : Met l yL_count [Cond.codeWith yL_count cL_count 4 (some .int) [(0, 9, 12, 15)]] ({ frames := 5, cells := 0, slots := 0, locals := 116 } : Room) (va_Pc [.ref q1, .int 3, .ref q2] (PZ g sz [(q2, .inl (g.2 1, 1, .inr (.inl f44))), (q33, .inl (g.2 0, 300, .inl f47)), (q34, .inl (g.2 0, 8, .inl f47)), (q46, .inl (g.2 1, 300, .inr (.inl f44))), (q36, .inr (3, [.ref q46])), (q35, .inl (g.2 1, 300, .inr (.inl f44))), (q21, .inr (8, [w37, w38, w39, w40, .int 0, w42, w43])), (q22, .inr (7, [w23, .ref q33, w25, .ref q34, .ref q35, .ref q36, w29, w30, w31, w32])), (q18, .inl (g.2 3, 10, .inr (.inr (.inr (.inr f19))))), (q14, .inr (10, [.ref q18, .int 0, w17])), (q1, .inr (11, [.ref q14, w4, .ref q22, w6, w7, w8, w9, w10, .int 0, w12, w13]))])) (QI g [(q2, .inl (g.2 1, 1, .inr (.inl f44))), (q33, .inl (g.2 0, 300, .inl f47)), (q34, .inl (g.2 0, 8, .inl f47)), (q46, .inl (g.2 1, 300, .inr (.inl f44))), (q36, .inr (3, [.ref q46])), (q35, .inl (g.2 1, 300, .inr (.inl f44))), (q21, .inr (8, [w37, w38, w39, w40, .int 0, w42, w43])), (q22, .inr (7, [w23, .ref q33, w25, .ref q34, .ref q35, .ref q36, w29, w30, w31, w32])), (q18, .inl (g.2 3, 10, .inr (.inr (.inr (.inr f19))))), (q14, .inr (10, [.ref q18, .int 0, w17])), (q1, .inr (11, [.ref q14, w4, .ref q22, w6, w7, w8, w9, w10, .int 0, w12, w13]))] sz 0 (fun _ => [(q2, .inl (g.2 1, 1, .inr (.inl (vp_updL f44 0 0))))])) 0 0 (va_A [(q2, .inl (g.2 1, 1, .inr (.inl f44))), (q33, .inl (g.2 0, 300, .inl f47)), (q34, .inl (g.2 0, 8, .inl f47)), (q46, .inl (g.2 1, 300, .inr (.inl f44))), (q36, .inr (3, [.ref q46])), (q35, .inl (g.2 1, 300, .inr (.inl f44))), (q21, .inr (8, [w37, w38, w39, w40, .int 0, w42, w43])), (q22, .inr (7, [w23, .ref q33, w25, .ref q34, .ref q35, .ref q36, w29, w30, w31, w32])), (q18, .inl (g.2 3, 10, .inr (.inr (.inr (.inr f19))))), (q14, .inr (10, [.ref q18, .int 0, w17])), (q1, .inr (11, [.ref q14, w4, .ref q22, w6, w7, w8, w9, w10, .int 0, w12, w13]))] sz) := by
  refine ofH (by decide) (Nat.le_of_ble_eq_true rfl) rfl ?_
  intro p e s m args below meth c A ls hAe hsz hx hb hml hr hlocks hin hown hE hP hD hA hS hl htb hz
  have hown : s.vm.findClass RL = some m.cls := hown
  refine lv_aload_n hx hb dL_count_0 rfl (lv_at hl 2 rfl) ?_
  refine lv_iconst (v := 0) hx hb dL_count_1 (by decide) ?_
  refine lv_aload_n hx hb dL_count_2 rfl (lv_at hl 0 rfl) ?_
  refine lv_iload_n hx hb dL_count_3 rfl (lv_at hl 1 rfl) ?_
  refine g_i (wr := [(q2, .inl (g.2 1, 1, .inr (.inl f44)))]) (rV (rest := [.int 0, .ref q2]) hx hb hml hown hE hP hD 10 rfl rfl (c1650_X9_count l g q1 q14 q18 q21 q22 q33 q34 q35 q36 q46 w4 w6 w7 w8 w9 w10 w12 w13 w17 w23 w25 w29 w30 w31 w32 w37 w38 w39 w40 w42 w43 f19 f44 f47 (hf20) s.heap.size) (kV_X9_count hE (e852 hE) rfl rfl ⟨(Nat.le_of_ble_eq_true rfl), (Nat.le_of_ble_eq_true rfl)⟩) [1, 2, 3, 4, 5, 6, 7, 8, 9, 10] rfl (by decide) rfl hl.1 rfl (lv_room (Nat.le_of_ble_eq_true rfl)) dL_count_4 ⟨(Nat.le_of_ble_eq_true rfl), (Nat.le_of_ble_eq_true rfl)⟩) hP hD hS hA [1, 2, 3, 4, 5, 6, 7, 8, 9, 10] [0] rfl rfl (by decide) (by decide) (fun u1 H locs hP hD hS => ?_)
  have hP : va_P g.1 vwCl [(q2, .inl (g.2 1, 1, .inr (.inl f44))), (q1, .inr (11, [.ref q14, w4, .ref q22, w6, w7, w8, w9, w10, .int 1, w12, w13])), (q18, .inl (g.2 3, 10, .inr (.inr (.inr (.inr f19))))), (q14, .inr (10, [.ref q18, .int 0, w17])), (q21, .inr (8, [w37, w38, w39, w40, .int 0, w42, w43])), (q34, .inl (g.2 0, 8, .inl (fillF 8 (-1) f47))), (q33, .inl (g.2 0, 300, .inl (fillF 300 (-1) f47))), (q46, .inl (g.2 1, 300, .inr (.inl f44))), (q36, .inr (3, [.ref q46])), (q35, .inl (g.2 1, 300, .inr (.inl f44))), (q22, .inr (7, [w23, .ref q33, w25, .ref q34, .ref q35, .ref q36, .int 0, .int 0, .int 0, .int 0]))] H := hP
  have hD : va_D A [(q2, .inl (g.2 1, 1, .inr (.inl f44))), (q1, .inr (11, [.ref q14, w4, .ref q22, w6, w7, w8, w9, w10, .int 1, w12, w13])), (q18, .inl (g.2 3, 10, .inr (.inr (.inr (.inr f19))))), (q14, .inr (10, [.ref q18, .int 0, w17])), (q21, .inr (8, [w37, w38, w39, w40, .int 0, w42, w43])), (q34, .inl (g.2 0, 8, .inl (fillF 8 (-1) f47))), (q33, .inl (g.2 0, 300, .inl (fillF 300 (-1) f47))), (q46, .inl (g.2 1, 300, .inr (.inl f44))), (q36, .inr (3, [.ref q46])), (q35, .inl (g.2 1, 300, .inr (.inl f44))), (q22, .inr (7, [w23, .ref q33, w25, .ref q34, .ref q35, .ref q36, .int 0, .int 0, .int 0, .int 0]))] := hD
  refine lv_i2l (v := 0) hx hb dL_count_7 (by decide) ?_
  refine x_last (ws' := [(q2, .inl (g.2 1, 1, .inr (.inl (vp_updL f44 0 0)))), (q1, .inr (11, [.ref q14, w4, .ref q22, w6, w7, w8, w9, w10, .int 1, w12, w13])), (q18, .inl (g.2 3, 10, .inr (.inr (.inr (.inr f19))))), (q14, .inr (10, [.ref q18, .int 0, w17])), (q21, .inr (8, [w37, w38, w39, w40, .int 0, w42, w43])), (q34, .inl (g.2 0, 8, .inl (fillF 8 (-1) f47))), (q33, .inl (g.2 0, 300, .inl (fillF 300 (-1) f47))), (q46, .inl (g.2 1, 300, .inr (.inl f44))), (q36, .inr (3, [.ref q46])), (q35, .inl (g.2 1, 300, .inr (.inl f44))), (q22, .inr (7, [w23, .ref q33, w25, .ref q34, .ref q35, .ref q36, .int 0, .int 0, .int 0, .int 0]))]) hx hb hE hP hD hS 0 rfl 0 (x_in (by decide)) (by decide) dL_count_8 rfl (fun H locs hP hD hS => ?_)
  refine lv_goto (tgt := 15) hx hb dL_count_9 (by decide) ?_
  refine lv_iconst (v := 0) hx hb dL_count_15 (by decide) ?_
  exact x_zret hx hb hr rfl rfl hlocks hP hD hS hAe hsz (Nat.le_of_ble_eq_true rfl) (Nat.le_of_ble_eq_true rfl) (fun _ => 0) [0] (by decide) rfl dL_count_16

set_option maxHeartbeats 4000000 in
set_option maxRecDepth 100000 in
theorem c1652_X10_in (l : Launch) (g : gG) (sz : Nat) : Met l yX10_in [Cond.code yX10_in cX10_in 3 (some .boolean)] ({ frames := 0, cells := 0, slots := 0, locals := 0 } : Room) (va_Pc [.int 3, .int 0, .int 8] (PX g sz [])) (QI g [] sz 1 (fun _ => [])) 0 0 (va_A [] sz) := by
  refine ofN (by decide) (Nat.le_of_ble_eq_true rfl) rfl ?_
  intro p e s m args below meth c A ls hAe hsz hx hb hml hr hlocks hin hown hE hP hD hA hS hl
  have hown : s.vm.findClass RX10 = some m.cls := hown
  refine lv_iload_n hx hb dX10_in_0 rfl (lv_at hl 0 rfl) ?_
  refine lv_iload_n hx hb dX10_in_1 rfl (lv_at hl 1 rfl) ?_
  refine lv_icmp_lt (tgt := 14) hx hb dX10_in_2 (by decide) (fun h => absurd h (by decide)) (fun _ => ?_)
  refine lv_iload_n hx hb dX10_in_5 rfl (lv_at hl 0 rfl) ?_
  refine lv_iload_n hx hb dX10_in_6 rfl (lv_at hl 2 rfl) ?_
  refine lv_icmp_gt (tgt := 14) hx hb dX10_in_7 (by decide) (fun h => absurd h (by decide)) (fun _ => ?_)
  refine lv_iconst (v := 1) hx hb dX10_in_10 (by decide) ?_
  refine lv_goto (tgt := 15) hx hb dX10_in_11 (by decide) ?_
  exact x_zret hx hb hr rfl rfl hlocks hP hD hS hAe hsz (Nat.le_of_ble_eq_true rfl) (Nat.le_of_ble_eq_true rfl) (fun _ => 0) [] (by decide) rfl dX10_in_15

set_option maxHeartbeats 4000000 in
set_option maxRecDepth 100000 in
theorem c1653_X10_count (l : Launch) (g : gG) (q1 q39 q40 q41 q42 : Nat) (w3 w4 w5 w6 w7 w8 w11 w12 w13 w14 w15 w16 w17 w18 w19 w20 w21 w22 w23 w24 w25 w26 w28 w29 w30 w31 w32 w33 w34 w35 w36 w37 w38 : Value) (f43 : Nat → Int32) (f53 : Nat → Int32) (hf44 : f43 0 = 0) (hf45 : f43 49 = 0) (hf46 : f43 98 = 0) (hf47 : f43 147 = 0) (hf48 : f43 196 = 0) (hf49 : f43 245 = 0) (hf50 : f43 294 = 0) (hf51 : f43 343 = 0) (hf52 : f43 392 = 0) (hf54 : f53 0 = 0) (hf55 : f53 1 = 0) (hf56 : f53 2 = 0) (hf57 : f53 3 = 0) (hf58 : f53 4 = 0) (hf59 : f53 5 = 0) (hf60 : f53 6 = 0) (hf61 : f53 7 = 0) (sz : Nat) : Met l yX10_count [Cond.code yX10_count cX10_count 6 (some .int)] ({ frames := 4, cells := 0, slots := 0, locals := 89 } : Room) (va_Pc [.ref q1, .int 3] (PX g sz [(q42, .inl (g.2 0, 8, .inl f53)), (q41, .inl (g.2 0, 8, .inl f53)), (q40, .inl (g.2 0, 8, .inl f53)), (q39, .inl (g.2 0, 497, .inl f43)), (q1, .inr (12, [.ref q39, w3, w4, w5, w6, w7, w8, .ref q40, .ref q41, w11, w12, w13, w14, w15, w16, w17, w18, w19, w20, w21, w22, w23, w24, w25, w26, .ref q42, w28, w29, w30, w31, w32, w33, w34, w35, w36, w37, w38]))])) (QI g [(q42, .inl (g.2 0, 8, .inl f53)), (q41, .inl (g.2 0, 8, .inl f53)), (q40, .inl (g.2 0, 8, .inl f53)), (q39, .inl (g.2 0, 497, .inl f43)), (q1, .inr (12, [.ref q39, w3, w4, w5, w6, w7, w8, .ref q40, .ref q41, w11, w12, w13, w14, w15, w16, w17, w18, w19, w20, w21, w22, w23, w24, w25, w26, .ref q42, w28, w29, w30, w31, w32, w33, w34, w35, w36, w37, w38]))] sz 0 (fun _ => [(q1, .inr (12, [.ref q39, w3, w4, w5, w6, w7, .int 0, .ref q40, .ref q41, w11, w12, w13, w14, w15, .int 0, w17, w18, w19, w20, w21, w22, w23, w24, w25, w26, .ref q42, w28, w29, w30, w31, w32, w33, w34, w35, w36, w37, w38]))])) 0 0 (va_A [(q42, .inl (g.2 0, 8, .inl f53)), (q41, .inl (g.2 0, 8, .inl f53)), (q40, .inl (g.2 0, 8, .inl f53)), (q39, .inl (g.2 0, 497, .inl f43)), (q1, .inr (12, [.ref q39, w3, w4, w5, w6, w7, w8, .ref q40, .ref q41, w11, w12, w13, w14, w15, w16, w17, w18, w19, w20, w21, w22, w23, w24, w25, w26, .ref q42, w28, w29, w30, w31, w32, w33, w34, w35, w36, w37, w38]))] sz) := by
  refine ofN (by decide) (Nat.le_of_ble_eq_true rfl) rfl ?_
  intro p e s m args below meth c A ls hAe hsz hx hb hml hr hlocks hin hown hE hP hD hA hS hl
  have hown : s.vm.findClass RX10 = some m.cls := hown
  refine lv_aload_n hx hb dX10_count_0 rfl (lv_at hl 0 rfl) ?_
  refine lv_iconst (v := 0) hx hb dX10_count_1 (by decide) ?_
  refine pf_RX10_86 (ws' := [(q42, .inl (g.2 0, 8, .inl f53)), (q41, .inl (g.2 0, 8, .inl f53)), (q40, .inl (g.2 0, 8, .inl f53)), (q39, .inl (g.2 0, 497, .inl f43)), (q1, .inr (12, [.ref q39, w3, w4, w5, w6, w7, .int 0, .ref q40, .ref q41, w11, w12, w13, w14, w15, w16, w17, w18, w19, w20, w21, w22, w23, w24, w25, w26, .ref q42, w28, w29, w30, w31, w32, w33, w34, w35, w36, w37, w38]))]) hx hb hown hE hP hD hS 4 rfl rfl rfl (Nat.le_of_ble_eq_true rfl) dX10_count_2 rfl (fun H locs hP hD hS => ?_)
  refine lv_iload_n hx hb dX10_count_5 rfl (lv_at hl 1 rfl) ?_
  refine lv_iconst (v := 0) hx hb dX10_count_6 (by decide) ?_
  refine lv_bipush (v := 8) hx hb dX10_count_7 (by decide) ?_
  refine g0_i (rS (rest := []) hx hb hml hown hE hP hD (c1652_X10_in l g H.size) (kS_X10_in hE (e1431 hE) rfl rfl ⟨(Nat.le_of_ble_eq_true rfl), (Nat.le_of_ble_eq_true rfl)⟩) [] rfl (by decide) rfl hl.1 rfl (lv_room (Nat.le_of_ble_eq_true rfl)) dX10_count_9 ⟨(Nat.le_of_ble_eq_true rfl), (Nat.le_of_ble_eq_true rfl)⟩) hP hD hS hA (fun u9 H locs hP hS => ?_)
  refine lv_if_ne (tgt := 21) hx hb dX10_count_12 (by decide) (fun _ => ?_) (fun h => absurd h (by decide))
  refine lv_aload_n hx hb dX10_count_21 rfl (lv_at hl 0 rfl) ?_
  refine g_v (wr := []) (rV (rest := []) hx hb hml hown hE hP hD 4 rfl rfl (c1632_X10_layNotes l g q1 q39 q40 q41 q42 w3 w4 w5 w6 w7 (.int 0) w11 w12 w13 w14 w15 w16 w17 w18 w19 w20 w21 w22 w23 w24 w25 w26 w28 w29 w30 w31 w32 w33 w34 w35 w36 w37 w38 f43 f53 (hf44) (hf45) (hf46) (hf47) (hf48) (hf49) (hf50) (hf51) (hf54) (hf55) (hf56) (hf57) (hf58) (hf59) (hf60) (hf61) (hf52) H.size) (kV_X10_layNotes hE (e1543 hE) rfl rfl ⟨(Nat.le_of_ble_eq_true rfl), (Nat.le_of_ble_eq_true rfl)⟩) [0, 1, 2, 3, 4] rfl (by decide) rfl hl.1 rfl (lv_room (Nat.le_of_ble_eq_true rfl)) dX10_count_22 ⟨(Nat.le_of_ble_eq_true rfl), (Nat.le_of_ble_eq_true rfl)⟩) hP hD hS hA [0, 1, 2, 3, 4] [] rfl rfl (by decide) (by decide) (fun u2 H locs hP hD hS => ?_)
  have hP : va_P g.1 vwCl [(q41, .inl (g.2 0, 8, .inl f53)), (q40, .inl (g.2 0, 8, .inl f53)), (q39, .inl (g.2 0, 497, .inl f43)), (q42, .inl (g.2 0, 8, .inl (upd (upd (upd (upd (upd (upd (upd (upd f53 0 (-1)) 1 (-1)) 2 (-1)) 3 (-1)) 4 (-1)) 5 (-1)) 6 (-1)) 7 (-1)))), (q1, .inr (12, [.ref q39, w3, w4, w5, w6, w7, .int 0, .ref q40, .ref q41, w11, w12, w13, w14, w15, .int 0, w17, w18, w19, w20, w21, w22, w23, w24, w25, w26, .ref q42, w28, w29, w30, w31, w32, w33, w34, w35, w36, w37, w38]))] H := hP
  have hD : va_D A [(q41, .inl (g.2 0, 8, .inl f53)), (q40, .inl (g.2 0, 8, .inl f53)), (q39, .inl (g.2 0, 497, .inl f43)), (q42, .inl (g.2 0, 8, .inl (upd (upd (upd (upd (upd (upd (upd (upd f53 0 (-1)) 1 (-1)) 2 (-1)) 3 (-1)) 4 (-1)) 5 (-1)) 6 (-1)) 7 (-1)))), (q1, .inr (12, [.ref q39, w3, w4, w5, w6, w7, .int 0, .ref q40, .ref q41, w11, w12, w13, w14, w15, .int 0, w17, w18, w19, w20, w21, w22, w23, w24, w25, w26, .ref q42, w28, w29, w30, w31, w32, w33, w34, w35, w36, w37, w38]))] := hD
  refine lv_iconst (v := 0) hx hb dX10_count_25 (by decide) ?_
  refine lv_istore_n (lv' := [(2, .int 0), (0, .ref q1), (1, .int 3)]) hx hb dX10_count_26 rfl hl (by decide) rfl (fun ls hl => ?_)
  refine lv_iconst (v := 0) hx hb dX10_count_27 (by decide) ?_
  refine lv_istore_n (lv' := [(3, .int 0), (2, .int 0), (0, .ref q1), (1, .int 3)]) hx hb dX10_count_28 rfl hl (by decide) rfl (fun ls hl => ?_)
  refine lv_iconst (v := 0) hx hb dX10_count_29 (by decide) ?_
  refine lv_istore (lv' := [(4, .int 0), (3, .int 0), (2, .int 0), (0, .ref q1), (1, .int 3)]) hx hb dX10_count_30 hl (by decide) rfl (fun ls hl => ?_)
  refine lv_iconst (v := 0) hx hb dX10_count_32 (by decide) ?_
  refine lv_istore (lv' := [(5, .int 0), (4, .int 0), (3, .int 0), (2, .int 0), (0, .ref q1), (1, .int 3)]) hx hb dX10_count_33 hl (by decide) rfl (fun ls hl => ?_)
  refine lv_iload hx hb dX10_count_35 (lv_at hl 0 rfl) ?_
  refine lv_aload_n hx hb dX10_count_37 rfl (lv_at hl 4 rfl) ?_
  refine gf_RX10_176 hx hb hown hE hP 4 rfl rfl dX10_count_38 ?_
  refine lv_icmp_ge (tgt := 100) hx hb dX10_count_41 (by decide) (fun _ => ?_) (fun h => absurd (by decide) h)
  refine lv_iload_n hx hb dX10_count_100 rfl (lv_at hl 5 rfl) ?_
  refine lv_tableIn (tgt := 164) hx hb dX10_count_101 (by decide) (by decide) rfl (by decide) ?_
  refine lv_iload_n hx hb dX10_count_164 rfl (lv_at hl 2 rfl) ?_
  exact x_zret hx hb hr rfl rfl hlocks hP hD hS hAe hsz (Nat.le_of_ble_eq_true rfl) (Nat.le_of_ble_eq_true rfl) (fun _ => 0) [4] (by decide) rfl dX10_count_165

set_option maxHeartbeats 4000000 in
set_option maxRecDepth 100000 in
theorem c1654_X9_count (l : Launch) (g : gG) (q1 q13 q17 q20 : Nat) (w3 w4 w5 w6 w7 w8 w9 w10 w11 w12 w16 w21 w22 w23 w24 w25 w27 : Value) (f18 : Nat → Option Nat) (hf19 : f18 0 = some q20) (sz : Nat) : Met l yX9_count [Cond.code yX9_count cX9_count 3 (some .int)] ({ frames := 2, cells := 0, slots := 0, locals := 42 } : Room) (va_Pc [.ref q1, .int 4] (PX g sz [(q20, .inr (8, [w21, w22, w23, w24, w25, .int 4, w27])), (q17, .inl (g.2 3, 10, .inr (.inr (.inr (.inr f18))))), (q13, .inr (10, [.ref q17, .int 0, w16])), (q1, .inr (11, [.ref q13, w3, w4, w5, w6, w7, w8, w9, w10, w11, w12]))])) (QI g [(q20, .inr (8, [w21, w22, w23, w24, w25, .int 4, w27])), (q17, .inl (g.2 3, 10, .inr (.inr (.inr (.inr f18))))), (q13, .inr (10, [.ref q17, .int 0, w16])), (q1, .inr (11, [.ref q13, w3, w4, w5, w6, w7, w8, w9, w10, w11, w12]))] sz 4 (fun _ => [(q20, .inr (8, [w21, w22, w23, w24, w25, .int 4, w27])), (q1, .inr (11, [.ref q13, w3, w4, w5, w6, w7, w8, w9, w10, w11, w12])), (q17, .inl (g.2 3, 10, .inr (.inr (.inr (.inr f18))))), (q13, .inr (10, [.ref q17, .int 0, w16]))])) 0 0 (va_A [(q20, .inr (8, [w21, w22, w23, w24, w25, .int 4, w27])), (q17, .inl (g.2 3, 10, .inr (.inr (.inr (.inr f18))))), (q13, .inr (10, [.ref q17, .int 0, w16])), (q1, .inr (11, [.ref q13, w3, w4, w5, w6, w7, w8, w9, w10, w11, w12]))] sz) := by
  refine ofN (by decide) (Nat.le_of_ble_eq_true rfl) rfl ?_
  intro p e s m args below meth c A ls hAe hsz hx hb hml hr hlocks hin hown hE hP hD hA hS hl
  have hown : s.vm.findClass RX9 = some m.cls := hown
  refine lv_aload_n hx hb dX9_count_0 rfl (lv_at hl 0 rfl) ?_
  refine gf_RX9_12 hx hb hown hE hP 3 rfl rfl dX9_count_1 ?_
  refine g_r (wr := [(q20, .inr (8, [w21, w22, w23, w24, w25, .int 4, w27])), (q1, .inr (11, [.ref q13, w3, w4, w5, w6, w7, w8, w9, w10, w11, w12]))]) (rV (rest := []) hx hb hml hown hE hP hD 2 rfl rfl (c71_X8_current l g q13 q17 q20 w16 f18 (hf19) s.heap.size) (kV_X8_current hE (e290 hE) rfl rfl ⟨(Nat.le_of_ble_eq_true rfl), (Nat.le_of_ble_eq_true rfl)⟩) [1, 2] rfl (by decide) rfl hl.1 rfl (lv_room (Nat.le_of_ble_eq_true rfl)) dX9_count_4 ⟨(Nat.le_of_ble_eq_true rfl), (Nat.le_of_ble_eq_true rfl)⟩) hP hD hS hA [1, 2] [0, 3] rfl rfl (by decide) (by decide) (fun u1 H locs hP hD hS => ?_)
  have hP : va_P g.1 vwCl [(q20, .inr (8, [w21, w22, w23, w24, w25, .int 4, w27])), (q1, .inr (11, [.ref q13, w3, w4, w5, w6, w7, w8, w9, w10, w11, w12])), (q17, .inl (g.2 3, 10, .inr (.inr (.inr (.inr f18))))), (q13, .inr (10, [.ref q17, .int 0, w16]))] H := hP
  have hD : va_D A [(q20, .inr (8, [w21, w22, w23, w24, w25, .int 4, w27])), (q1, .inr (11, [.ref q13, w3, w4, w5, w6, w7, w8, w9, w10, w11, w12])), (q17, .inl (g.2 3, 10, .inr (.inr (.inr (.inr f18))))), (q13, .inr (10, [.ref q17, .int 0, w16]))] := hD
  refine lv_astore_n (lv' := [(2, .ref q20), (0, .ref q1), (1, .int 4)]) hx hb dX9_count_7 rfl hl (by decide) rfl (fun ls hl => ?_)
  refine lv_iload_n hx hb dX9_count_8 rfl (lv_at hl 2 rfl) ?_
  refine lv_tableIn (tgt := 89) hx hb dX9_count_9 (by decide) (by decide) rfl (by decide) ?_
  refine lv_aload_n hx hb dX9_count_89 rfl (lv_at hl 0 rfl) ?_
  refine gf_RX9_190 hx hb hown hE hP 0 rfl rfl dX9_count_90 ?_
  exact x_zret hx hb hr rfl rfl hlocks hP hD hS hAe hsz (Nat.le_of_ble_eq_true rfl) (Nat.le_of_ble_eq_true rfl) (fun _ => 0) [0, 1, 2, 3] (by decide) rfl dX9_count_93

set_option maxHeartbeats 4000000 in
set_option maxRecDepth 100000 in
theorem c1655_L_count (l : Launch) (g : gG) (hlx : l.stackTraces = false) (q1 q2 q14 q18 q21 : Nat) (w4 w5 w6 w7 w8 w9 w10 w11 w12 w13 w17 w22 w23 w24 w25 w26 w28 : Value) (f19 : Nat → Option Nat) (f29 : Nat → Int64) (hf20 : f19 0 = some q21) (sz : Nat) : Met l yL_count [Cond.codeWith yL_count cL_count 4 (some .int) [(0, 9, 12, 15)]] ({ frames := 3, cells := 0, slots := 0, locals := 64 } : Room) (va_Pc [.ref q1, .int 4, .ref q2] (PZ g sz [(q2, .inl (g.2 1, 1, .inr (.inl f29))), (q21, .inr (8, [w22, w23, w24, w25, w26, .int 4, w28])), (q18, .inl (g.2 3, 10, .inr (.inr (.inr (.inr f19))))), (q14, .inr (10, [.ref q18, .int 0, w17])), (q1, .inr (11, [.ref q14, w4, w5, w6, w7, w8, w9, w10, w11, w12, w13]))])) (QI g [(q2, .inl (g.2 1, 1, .inr (.inl f29))), (q21, .inr (8, [w22, w23, w24, w25, w26, .int 4, w28])), (q18, .inl (g.2 3, 10, .inr (.inr (.inr (.inr f19))))), (q14, .inr (10, [.ref q18, .int 0, w17])), (q1, .inr (11, [.ref q14, w4, w5, w6, w7, w8, w9, w10, w11, w12, w13]))] sz 0 (fun _ => [(q2, .inl (g.2 1, 1, .inr (.inl (vp_updL f29 0 4))))])) 0 0 (va_A [(q2, .inl (g.2 1, 1, .inr (.inl f29))), (q21, .inr (8, [w22, w23, w24, w25, w26, .int 4, w28])), (q18, .inl (g.2 3, 10, .inr (.inr (.inr (.inr f19))))), (q14, .inr (10, [.ref q18, .int 0, w17])), (q1, .inr (11, [.ref q14, w4, w5, w6, w7, w8, w9, w10, w11, w12, w13]))] sz) := by
  refine ofH (by decide) (Nat.le_of_ble_eq_true rfl) rfl ?_
  intro p e s m args below meth c A ls hAe hsz hx hb hml hr hlocks hin hown hE hP hD hA hS hl htb hz
  have hown : s.vm.findClass RL = some m.cls := hown
  refine lv_aload_n hx hb dL_count_0 rfl (lv_at hl 2 rfl) ?_
  refine lv_iconst (v := 0) hx hb dL_count_1 (by decide) ?_
  refine lv_aload_n hx hb dL_count_2 rfl (lv_at hl 0 rfl) ?_
  refine lv_iload_n hx hb dL_count_3 rfl (lv_at hl 1 rfl) ?_
  refine g_i (wr := [(q2, .inl (g.2 1, 1, .inr (.inl f29)))]) (rV (rest := [.int 0, .ref q2]) hx hb hml hown hE hP hD 4 rfl rfl (c1654_X9_count l g q1 q14 q18 q21 w4 w5 w6 w7 w8 w9 w10 w11 w12 w13 w17 w22 w23 w24 w25 w26 w28 f19 (hf20) s.heap.size) (kV_X9_count hE (e852 hE) rfl rfl ⟨(Nat.le_of_ble_eq_true rfl), (Nat.le_of_ble_eq_true rfl)⟩) [1, 2, 3, 4] rfl (by decide) rfl hl.1 rfl (lv_room (Nat.le_of_ble_eq_true rfl)) dL_count_4 ⟨(Nat.le_of_ble_eq_true rfl), (Nat.le_of_ble_eq_true rfl)⟩) hP hD hS hA [1, 2, 3, 4] [0] rfl rfl (by decide) (by decide) (fun u1 H locs hP hD hS => ?_)
  have hP : va_P g.1 vwCl [(q2, .inl (g.2 1, 1, .inr (.inl f29))), (q21, .inr (8, [w22, w23, w24, w25, w26, .int 4, w28])), (q1, .inr (11, [.ref q14, w4, w5, w6, w7, w8, w9, w10, w11, w12, w13])), (q18, .inl (g.2 3, 10, .inr (.inr (.inr (.inr f19))))), (q14, .inr (10, [.ref q18, .int 0, w17]))] H := hP
  have hD : va_D A [(q2, .inl (g.2 1, 1, .inr (.inl f29))), (q21, .inr (8, [w22, w23, w24, w25, w26, .int 4, w28])), (q1, .inr (11, [.ref q14, w4, w5, w6, w7, w8, w9, w10, w11, w12, w13])), (q18, .inl (g.2 3, 10, .inr (.inr (.inr (.inr f19))))), (q14, .inr (10, [.ref q18, .int 0, w17]))] := hD
  refine lv_i2l (v := 4) hx hb dL_count_7 (by decide) ?_
  refine x_last (ws' := [(q2, .inl (g.2 1, 1, .inr (.inl (vp_updL f29 0 4)))), (q21, .inr (8, [w22, w23, w24, w25, w26, .int 4, w28])), (q1, .inr (11, [.ref q14, w4, w5, w6, w7, w8, w9, w10, w11, w12, w13])), (q18, .inl (g.2 3, 10, .inr (.inr (.inr (.inr f19))))), (q14, .inr (10, [.ref q18, .int 0, w17]))]) hx hb hE hP hD hS 0 rfl 0 (x_in (by decide)) (by decide) dL_count_8 rfl (fun H locs hP hD hS => ?_)
  refine lv_goto (tgt := 15) hx hb dL_count_9 (by decide) ?_
  refine lv_iconst (v := 0) hx hb dL_count_15 (by decide) ?_
  exact x_zret hx hb hr rfl rfl hlocks hP hD hS hAe hsz (Nat.le_of_ble_eq_true rfl) (Nat.le_of_ble_eq_true rfl) (fun _ => 0) [0] (by decide) rfl dL_count_16

set_option maxHeartbeats 4000000 in
set_option maxRecDepth 100000 in
theorem c1656_X10_in (l : Launch) (g : gG) (sz : Nat) : Met l yX10_in [Cond.code yX10_in cX10_in 3 (some .boolean)] ({ frames := 0, cells := 0, slots := 0, locals := 0 } : Room) (va_Pc [.int 4, .int 0, .int 8] (PX g sz [])) (QI g [] sz 1 (fun _ => [])) 0 0 (va_A [] sz) := by
  refine ofN (by decide) (Nat.le_of_ble_eq_true rfl) rfl ?_
  intro p e s m args below meth c A ls hAe hsz hx hb hml hr hlocks hin hown hE hP hD hA hS hl
  have hown : s.vm.findClass RX10 = some m.cls := hown
  refine lv_iload_n hx hb dX10_in_0 rfl (lv_at hl 0 rfl) ?_
  refine lv_iload_n hx hb dX10_in_1 rfl (lv_at hl 1 rfl) ?_
  refine lv_icmp_lt (tgt := 14) hx hb dX10_in_2 (by decide) (fun h => absurd h (by decide)) (fun _ => ?_)
  refine lv_iload_n hx hb dX10_in_5 rfl (lv_at hl 0 rfl) ?_
  refine lv_iload_n hx hb dX10_in_6 rfl (lv_at hl 2 rfl) ?_
  refine lv_icmp_gt (tgt := 14) hx hb dX10_in_7 (by decide) (fun h => absurd h (by decide)) (fun _ => ?_)
  refine lv_iconst (v := 1) hx hb dX10_in_10 (by decide) ?_
  refine lv_goto (tgt := 15) hx hb dX10_in_11 (by decide) ?_
  exact x_zret hx hb hr rfl rfl hlocks hP hD hS hAe hsz (Nat.le_of_ble_eq_true rfl) (Nat.le_of_ble_eq_true rfl) (fun _ => 0) [] (by decide) rfl dX10_in_15

set_option maxHeartbeats 4000000 in
set_option maxRecDepth 100000 in
theorem c1657_X10_count (l : Launch) (g : gG) (q1 q39 q40 q41 q42 : Nat) (w3 w4 w5 w6 w7 w8 w11 w12 w13 w14 w15 w16 w17 w18 w19 w20 w21 w22 w23 w24 w25 w26 w28 w29 w30 w31 w32 w33 w34 w35 w36 w37 w38 : Value) (f43 : Nat → Int32) (f53 : Nat → Int32) (hf44 : f43 0 = 0) (hf45 : f43 49 = 0) (hf46 : f43 98 = 0) (hf47 : f43 147 = 0) (hf48 : f43 196 = 0) (hf49 : f43 245 = 0) (hf50 : f43 294 = 0) (hf51 : f43 343 = 0) (hf52 : f43 392 = 0) (hf54 : f53 0 = 0) (hf55 : f53 1 = 0) (hf56 : f53 2 = 0) (hf57 : f53 3 = 0) (hf58 : f53 4 = 0) (hf59 : f53 5 = 0) (hf60 : f53 6 = 0) (hf61 : f53 7 = 0) (hf62 : f43 495 = 4) (sz : Nat) : Met l yX10_count [Cond.code yX10_count cX10_count 6 (some .int)] ({ frames := 4, cells := 0, slots := 0, locals := 89 } : Room) (va_Pc [.ref q1, .int 4] (PX g sz [(q42, .inl (g.2 0, 8, .inl f53)), (q41, .inl (g.2 0, 8, .inl f53)), (q40, .inl (g.2 0, 8, .inl f53)), (q39, .inl (g.2 0, 497, .inl f43)), (q1, .inr (12, [.ref q39, w3, w4, w5, w6, w7, w8, .ref q40, .ref q41, w11, w12, w13, w14, w15, w16, w17, w18, w19, w20, w21, w22, w23, w24, w25, w26, .ref q42, w28, w29, w30, w31, w32, w33, w34, w35, w36, w37, w38]))])) (QI g [(q42, .inl (g.2 0, 8, .inl f53)), (q41, .inl (g.2 0, 8, .inl f53)), (q40, .inl (g.2 0, 8, .inl f53)), (q39, .inl (g.2 0, 497, .inl f43)), (q1, .inr (12, [.ref q39, w3, w4, w5, w6, w7, w8, .ref q40, .ref q41, w11, w12, w13, w14, w15, w16, w17, w18, w19, w20, w21, w22, w23, w24, w25, w26, .ref q42, w28, w29, w30, w31, w32, w33, w34, w35, w36, w37, w38]))] sz 4 (fun _ => [(q1, .inr (12, [.ref q39, w3, w4, w5, w6, w7, .int 0, .ref q40, .ref q41, w11, w12, w13, w14, w15, .int 0, w17, w18, w19, w20, w21, w22, w23, w24, w25, w26, .ref q42, w28, w29, w30, w31, w32, w33, w34, w35, w36, w37, w38]))])) 0 0 (va_A [(q42, .inl (g.2 0, 8, .inl f53)), (q41, .inl (g.2 0, 8, .inl f53)), (q40, .inl (g.2 0, 8, .inl f53)), (q39, .inl (g.2 0, 497, .inl f43)), (q1, .inr (12, [.ref q39, w3, w4, w5, w6, w7, w8, .ref q40, .ref q41, w11, w12, w13, w14, w15, w16, w17, w18, w19, w20, w21, w22, w23, w24, w25, w26, .ref q42, w28, w29, w30, w31, w32, w33, w34, w35, w36, w37, w38]))] sz) := by
  refine ofN (by decide) (Nat.le_of_ble_eq_true rfl) rfl ?_
  intro p e s m args below meth c A ls hAe hsz hx hb hml hr hlocks hin hown hE hP hD hA hS hl
  have hown : s.vm.findClass RX10 = some m.cls := hown
  refine lv_aload_n hx hb dX10_count_0 rfl (lv_at hl 0 rfl) ?_
  refine lv_iconst (v := 0) hx hb dX10_count_1 (by decide) ?_
  refine pf_RX10_86 (ws' := [(q42, .inl (g.2 0, 8, .inl f53)), (q41, .inl (g.2 0, 8, .inl f53)), (q40, .inl (g.2 0, 8, .inl f53)), (q39, .inl (g.2 0, 497, .inl f43)), (q1, .inr (12, [.ref q39, w3, w4, w5, w6, w7, .int 0, .ref q40, .ref q41, w11, w12, w13, w14, w15, w16, w17, w18, w19, w20, w21, w22, w23, w24, w25, w26, .ref q42, w28, w29, w30, w31, w32, w33, w34, w35, w36, w37, w38]))]) hx hb hown hE hP hD hS 4 rfl rfl rfl (Nat.le_of_ble_eq_true rfl) dX10_count_2 rfl (fun H locs hP hD hS => ?_)
  refine lv_iload_n hx hb dX10_count_5 rfl (lv_at hl 1 rfl) ?_
  refine lv_iconst (v := 0) hx hb dX10_count_6 (by decide) ?_
  refine lv_bipush (v := 8) hx hb dX10_count_7 (by decide) ?_
  refine g0_i (rS (rest := []) hx hb hml hown hE hP hD (c1656_X10_in l g H.size) (kS_X10_in hE (e1431 hE) rfl rfl ⟨(Nat.le_of_ble_eq_true rfl), (Nat.le_of_ble_eq_true rfl)⟩) [] rfl (by decide) rfl hl.1 rfl (lv_room (Nat.le_of_ble_eq_true rfl)) dX10_count_9 ⟨(Nat.le_of_ble_eq_true rfl), (Nat.le_of_ble_eq_true rfl)⟩) hP hD hS hA (fun u9 H locs hP hS => ?_)
  refine lv_if_ne (tgt := 21) hx hb dX10_count_12 (by decide) (fun _ => ?_) (fun h => absurd h (by decide))
  refine lv_aload_n hx hb dX10_count_21 rfl (lv_at hl 0 rfl) ?_
  refine g_v (wr := []) (rV (rest := []) hx hb hml hown hE hP hD 4 rfl rfl (c1632_X10_layNotes l g q1 q39 q40 q41 q42 w3 w4 w5 w6 w7 (.int 0) w11 w12 w13 w14 w15 w16 w17 w18 w19 w20 w21 w22 w23 w24 w25 w26 w28 w29 w30 w31 w32 w33 w34 w35 w36 w37 w38 f43 f53 (hf44) (hf45) (hf46) (hf47) (hf48) (hf49) (hf50) (hf51) (hf54) (hf55) (hf56) (hf57) (hf58) (hf59) (hf60) (hf61) (hf52) H.size) (kV_X10_layNotes hE (e1543 hE) rfl rfl ⟨(Nat.le_of_ble_eq_true rfl), (Nat.le_of_ble_eq_true rfl)⟩) [0, 1, 2, 3, 4] rfl (by decide) rfl hl.1 rfl (lv_room (Nat.le_of_ble_eq_true rfl)) dX10_count_22 ⟨(Nat.le_of_ble_eq_true rfl), (Nat.le_of_ble_eq_true rfl)⟩) hP hD hS hA [0, 1, 2, 3, 4] [] rfl rfl (by decide) (by decide) (fun u2 H locs hP hD hS => ?_)
  have hP : va_P g.1 vwCl [(q41, .inl (g.2 0, 8, .inl f53)), (q40, .inl (g.2 0, 8, .inl f53)), (q39, .inl (g.2 0, 497, .inl f43)), (q42, .inl (g.2 0, 8, .inl (upd (upd (upd (upd (upd (upd (upd (upd f53 0 (-1)) 1 (-1)) 2 (-1)) 3 (-1)) 4 (-1)) 5 (-1)) 6 (-1)) 7 (-1)))), (q1, .inr (12, [.ref q39, w3, w4, w5, w6, w7, .int 0, .ref q40, .ref q41, w11, w12, w13, w14, w15, .int 0, w17, w18, w19, w20, w21, w22, w23, w24, w25, w26, .ref q42, w28, w29, w30, w31, w32, w33, w34, w35, w36, w37, w38]))] H := hP
  have hD : va_D A [(q41, .inl (g.2 0, 8, .inl f53)), (q40, .inl (g.2 0, 8, .inl f53)), (q39, .inl (g.2 0, 497, .inl f43)), (q42, .inl (g.2 0, 8, .inl (upd (upd (upd (upd (upd (upd (upd (upd f53 0 (-1)) 1 (-1)) 2 (-1)) 3 (-1)) 4 (-1)) 5 (-1)) 6 (-1)) 7 (-1)))), (q1, .inr (12, [.ref q39, w3, w4, w5, w6, w7, .int 0, .ref q40, .ref q41, w11, w12, w13, w14, w15, .int 0, w17, w18, w19, w20, w21, w22, w23, w24, w25, w26, .ref q42, w28, w29, w30, w31, w32, w33, w34, w35, w36, w37, w38]))] := hD
  refine lv_iconst (v := 0) hx hb dX10_count_25 (by decide) ?_
  refine lv_istore_n (lv' := [(2, .int 0), (0, .ref q1), (1, .int 4)]) hx hb dX10_count_26 rfl hl (by decide) rfl (fun ls hl => ?_)
  refine lv_iconst (v := 0) hx hb dX10_count_27 (by decide) ?_
  refine lv_istore_n (lv' := [(3, .int 0), (2, .int 0), (0, .ref q1), (1, .int 4)]) hx hb dX10_count_28 rfl hl (by decide) rfl (fun ls hl => ?_)
  refine lv_iconst (v := 0) hx hb dX10_count_29 (by decide) ?_
  refine lv_istore (lv' := [(4, .int 0), (3, .int 0), (2, .int 0), (0, .ref q1), (1, .int 4)]) hx hb dX10_count_30 hl (by decide) rfl (fun ls hl => ?_)
  refine lv_iconst (v := 0) hx hb dX10_count_32 (by decide) ?_
  refine lv_istore (lv' := [(5, .int 0), (4, .int 0), (3, .int 0), (2, .int 0), (0, .ref q1), (1, .int 4)]) hx hb dX10_count_33 hl (by decide) rfl (fun ls hl => ?_)
  refine lv_iload hx hb dX10_count_35 (lv_at hl 0 rfl) ?_
  refine lv_aload_n hx hb dX10_count_37 rfl (lv_at hl 4 rfl) ?_
  refine gf_RX10_176 hx hb hown hE hP 4 rfl rfl dX10_count_38 ?_
  refine lv_icmp_ge (tgt := 100) hx hb dX10_count_41 (by decide) (fun _ => ?_) (fun h => absurd (by decide) h)
  refine lv_iload_n hx hb dX10_count_100 rfl (lv_at hl 5 rfl) ?_
  refine lv_tableIn (tgt := 166) hx hb dX10_count_101 (by decide) (by decide) rfl (by decide) ?_
  refine lv_aload_n hx hb dX10_count_166 rfl (lv_at hl 4 rfl) ?_
  refine gf_RX10_9 hx hb hown hE hP 4 rfl rfl dX10_count_167 ?_
  refine lv_sipush (v := 495) hx hb dX10_count_170 (by decide) ?_
  refine x_iald (v := 4) hx hb hE hP 2 rfl 495 (x_in (by decide)) (by decide) hf62 dX10_count_173 ?_
  exact x_zret hx hb hr rfl rfl hlocks hP hD hS hAe hsz (Nat.le_of_ble_eq_true rfl) (Nat.le_of_ble_eq_true rfl) (fun _ => 0) [4] (by decide) rfl dX10_count_174

set_option maxHeartbeats 4000000 in
set_option maxRecDepth 100000 in
theorem c1658_X7_placeCount (l : Launch) (g : gG) (q1 : Nat) (w2 w3 w5 : Value) (sz : Nat) : Met l yX7_placeCount [Cond.code yX7_placeCount cX7_placeCount 1 (some .int)] ({ frames := 0, cells := 0, slots := 0, locals := 0 } : Room) (va_Pc [.ref q1] (PX g sz [(q1, .inr (9, [w2, w3, .int 1, w5]))])) (QI g [(q1, .inr (9, [w2, w3, .int 1, w5]))] sz 1 (fun _ => [(q1, .inr (9, [w2, w3, .int 1, w5]))])) 0 0 (va_A [(q1, .inr (9, [w2, w3, .int 1, w5]))] sz) := by
  refine ofN (by decide) (Nat.le_of_ble_eq_true rfl) rfl ?_
  intro p e s m args below meth c A ls hAe hsz hx hb hml hr hlocks hin hown hE hP hD hA hS hl
  have hown : s.vm.findClass RX7 = some m.cls := hown
  refine lv_aload_n hx hb dX7_placeCount_0 rfl (lv_at hl 0 rfl) ?_
  refine gf_RX7_18 hx hb hown hE hP 0 rfl rfl dX7_placeCount_1 ?_
  exact x_zret hx hb hr rfl rfl hlocks hP hD hS hAe hsz (Nat.le_of_ble_eq_true rfl) (Nat.le_of_ble_eq_true rfl) (fun _ => 0) [0] (by decide) rfl dX7_placeCount_4

set_option maxHeartbeats 4000000 in
set_option maxRecDepth 100000 in
theorem c1659_X9_count (l : Launch) (g : gG) (q1 q13 q17 q20 q28 : Nat) (w3 w4 w5 w6 w7 w8 w9 w10 w11 w12 w16 w21 w23 w24 w25 w26 w27 w29 w30 w32 : Value) (f18 : Nat → Option Nat) (hf19 : f18 0 = some q20) (sz : Nat) : Met l yX9_count [Cond.code yX9_count cX9_count 3 (some .int)] ({ frames := 2, cells := 0, slots := 0, locals := 42 } : Room) (va_Pc [.ref q1, .int 5] (PX g sz [(q28, .inr (9, [w29, w30, .int 1, w32])), (q20, .inr (8, [w21, .ref q28, w23, w24, w25, w26, w27])), (q17, .inl (g.2 3, 10, .inr (.inr (.inr (.inr f18))))), (q13, .inr (10, [.ref q17, .int 0, w16])), (q1, .inr (11, [.ref q13, w3, w4, w5, w6, w7, w8, w9, w10, w11, w12]))])) (QI g [(q28, .inr (9, [w29, w30, .int 1, w32])), (q20, .inr (8, [w21, .ref q28, w23, w24, w25, w26, w27])), (q17, .inl (g.2 3, 10, .inr (.inr (.inr (.inr f18))))), (q13, .inr (10, [.ref q17, .int 0, w16])), (q1, .inr (11, [.ref q13, w3, w4, w5, w6, w7, w8, w9, w10, w11, w12]))] sz 1 (fun _ => [(q20, .inr (8, [w21, .ref q28, w23, w24, w25, w26, w27])), (q1, .inr (11, [.ref q13, w3, w4, w5, w6, w7, w8, w9, w10, w11, w12])), (q17, .inl (g.2 3, 10, .inr (.inr (.inr (.inr f18))))), (q13, .inr (10, [.ref q17, .int 0, w16])), (q28, .inr (9, [w29, w30, .int 1, w32]))])) 0 0 (va_A [(q28, .inr (9, [w29, w30, .int 1, w32])), (q20, .inr (8, [w21, .ref q28, w23, w24, w25, w26, w27])), (q17, .inl (g.2 3, 10, .inr (.inr (.inr (.inr f18))))), (q13, .inr (10, [.ref q17, .int 0, w16])), (q1, .inr (11, [.ref q13, w3, w4, w5, w6, w7, w8, w9, w10, w11, w12]))] sz) := by
  refine ofN (by decide) (Nat.le_of_ble_eq_true rfl) rfl ?_
  intro p e s m args below meth c A ls hAe hsz hx hb hml hr hlocks hin hown hE hP hD hA hS hl
  have hown : s.vm.findClass RX9 = some m.cls := hown
  refine lv_aload_n hx hb dX9_count_0 rfl (lv_at hl 0 rfl) ?_
  refine gf_RX9_12 hx hb hown hE hP 4 rfl rfl dX9_count_1 ?_
  refine g_r (wr := [(q28, .inr (9, [w29, w30, .int 1, w32])), (q20, .inr (8, [w21, .ref q28, w23, w24, w25, w26, w27])), (q1, .inr (11, [.ref q13, w3, w4, w5, w6, w7, w8, w9, w10, w11, w12]))]) (rV (rest := []) hx hb hml hown hE hP hD 3 rfl rfl (c71_X8_current l g q13 q17 q20 w16 f18 (hf19) s.heap.size) (kV_X8_current hE (e290 hE) rfl rfl ⟨(Nat.le_of_ble_eq_true rfl), (Nat.le_of_ble_eq_true rfl)⟩) [2, 3] rfl (by decide) rfl hl.1 rfl (lv_room (Nat.le_of_ble_eq_true rfl)) dX9_count_4 ⟨(Nat.le_of_ble_eq_true rfl), (Nat.le_of_ble_eq_true rfl)⟩) hP hD hS hA [2, 3] [0, 1, 4] rfl rfl (by decide) (by decide) (fun u1 H locs hP hD hS => ?_)
  have hP : va_P g.1 vwCl [(q28, .inr (9, [w29, w30, .int 1, w32])), (q20, .inr (8, [w21, .ref q28, w23, w24, w25, w26, w27])), (q1, .inr (11, [.ref q13, w3, w4, w5, w6, w7, w8, w9, w10, w11, w12])), (q17, .inl (g.2 3, 10, .inr (.inr (.inr (.inr f18))))), (q13, .inr (10, [.ref q17, .int 0, w16]))] H := hP
  have hD : va_D A [(q28, .inr (9, [w29, w30, .int 1, w32])), (q20, .inr (8, [w21, .ref q28, w23, w24, w25, w26, w27])), (q1, .inr (11, [.ref q13, w3, w4, w5, w6, w7, w8, w9, w10, w11, w12])), (q17, .inl (g.2 3, 10, .inr (.inr (.inr (.inr f18))))), (q13, .inr (10, [.ref q17, .int 0, w16]))] := hD
  refine lv_astore_n (lv' := [(2, .ref q20), (0, .ref q1), (1, .int 5)]) hx hb dX9_count_7 rfl hl (by decide) rfl (fun ls hl => ?_)
  refine lv_iload_n hx hb dX9_count_8 rfl (lv_at hl 2 rfl) ?_
  refine lv_tableIn (tgt := 94) hx hb dX9_count_9 (by decide) (by decide) rfl (by decide) ?_
  refine lv_aload_n hx hb dX9_count_94 rfl (lv_at hl 0 rfl) ?_
  refine gf_RX9_193 hx hb hown hE hP 1 rfl rfl dX9_count_95 ?_
  refine g_i (wr := [(q20, .inr (8, [w21, .ref q28, w23, w24, w25, w26, w27])), (q1, .inr (11, [.ref q13, w3, w4, w5, w6, w7, w8, w9, w10, w11, w12])), (q17, .inl (g.2 3, 10, .inr (.inr (.inr (.inr f18))))), (q13, .inr (10, [.ref q17, .int 0, w16]))]) (rV (rest := []) hx hb hml hown hE hP hD 0 rfl rfl (c1658_X7_placeCount l g q28 w29 w30 w32 H.size) (kV_X7_placeCount hE (e865 hE) rfl rfl ⟨(Nat.le_of_ble_eq_true rfl), (Nat.le_of_ble_eq_true rfl)⟩) [0] rfl (by decide) rfl hl.1 rfl (lv_room (Nat.le_of_ble_eq_true rfl)) dX9_count_98 ⟨(Nat.le_of_ble_eq_true rfl), (Nat.le_of_ble_eq_true rfl)⟩) hP hD hS hA [0] [1, 2, 3, 4] rfl rfl (by decide) (by decide) (fun u2 H locs hP hD hS => ?_)
  have hP : va_P g.1 vwCl [(q20, .inr (8, [w21, .ref q28, w23, w24, w25, w26, w27])), (q1, .inr (11, [.ref q13, w3, w4, w5, w6, w7, w8, w9, w10, w11, w12])), (q17, .inl (g.2 3, 10, .inr (.inr (.inr (.inr f18))))), (q13, .inr (10, [.ref q17, .int 0, w16])), (q28, .inr (9, [w29, w30, .int 1, w32]))] H := hP
  have hD : va_D A [(q20, .inr (8, [w21, .ref q28, w23, w24, w25, w26, w27])), (q1, .inr (11, [.ref q13, w3, w4, w5, w6, w7, w8, w9, w10, w11, w12])), (q17, .inl (g.2 3, 10, .inr (.inr (.inr (.inr f18))))), (q13, .inr (10, [.ref q17, .int 0, w16])), (q28, .inr (9, [w29, w30, .int 1, w32]))] := hD
  exact x_zret hx hb hr rfl rfl hlocks hP hD hS hAe hsz (Nat.le_of_ble_eq_true rfl) (Nat.le_of_ble_eq_true rfl) (fun _ => 0) [0, 1, 2, 3, 4] (by decide) rfl dX9_count_101

set_option maxHeartbeats 4000000 in
set_option maxRecDepth 100000 in
theorem c1660_L_count (l : Launch) (g : gG) (hlx : l.stackTraces = false) (q1 q2 q14 q18 q21 q29 : Nat) (w4 w5 w6 w7 w8 w9 w10 w11 w12 w13 w17 w22 w24 w25 w26 w27 w28 w30 w31 w33 : Value) (f19 : Nat → Option Nat) (f34 : Nat → Int64) (hf20 : f19 0 = some q21) (sz : Nat) : Met l yL_count [Cond.codeWith yL_count cL_count 4 (some .int) [(0, 9, 12, 15)]] ({ frames := 3, cells := 0, slots := 0, locals := 64 } : Room) (va_Pc [.ref q1, .int 5, .ref q2] (PZ g sz [(q2, .inl (g.2 1, 1, .inr (.inl f34))), (q29, .inr (9, [w30, w31, .int 1, w33])), (q21, .inr (8, [w22, .ref q29, w24, w25, w26, w27, w28])), (q18, .inl (g.2 3, 10, .inr (.inr (.inr (.inr f19))))), (q14, .inr (10, [.ref q18, .int 0, w17])), (q1, .inr (11, [.ref q14, w4, w5, w6, w7, w8, w9, w10, w11, w12, w13]))])) (QI g [(q2, .inl (g.2 1, 1, .inr (.inl f34))), (q29, .inr (9, [w30, w31, .int 1, w33])), (q21, .inr (8, [w22, .ref q29, w24, w25, w26, w27, w28])), (q18, .inl (g.2 3, 10, .inr (.inr (.inr (.inr f19))))), (q14, .inr (10, [.ref q18, .int 0, w17])), (q1, .inr (11, [.ref q14, w4, w5, w6, w7, w8, w9, w10, w11, w12, w13]))] sz 0 (fun _ => [(q2, .inl (g.2 1, 1, .inr (.inl (vp_updL f34 0 1))))])) 0 0 (va_A [(q2, .inl (g.2 1, 1, .inr (.inl f34))), (q29, .inr (9, [w30, w31, .int 1, w33])), (q21, .inr (8, [w22, .ref q29, w24, w25, w26, w27, w28])), (q18, .inl (g.2 3, 10, .inr (.inr (.inr (.inr f19))))), (q14, .inr (10, [.ref q18, .int 0, w17])), (q1, .inr (11, [.ref q14, w4, w5, w6, w7, w8, w9, w10, w11, w12, w13]))] sz) := by
  refine ofH (by decide) (Nat.le_of_ble_eq_true rfl) rfl ?_
  intro p e s m args below meth c A ls hAe hsz hx hb hml hr hlocks hin hown hE hP hD hA hS hl htb hz
  have hown : s.vm.findClass RL = some m.cls := hown
  refine lv_aload_n hx hb dL_count_0 rfl (lv_at hl 2 rfl) ?_
  refine lv_iconst (v := 0) hx hb dL_count_1 (by decide) ?_
  refine lv_aload_n hx hb dL_count_2 rfl (lv_at hl 0 rfl) ?_
  refine lv_iload_n hx hb dL_count_3 rfl (lv_at hl 1 rfl) ?_
  refine g_i (wr := [(q2, .inl (g.2 1, 1, .inr (.inl f34)))]) (rV (rest := [.int 0, .ref q2]) hx hb hml hown hE hP hD 5 rfl rfl (c1659_X9_count l g q1 q14 q18 q21 q29 w4 w5 w6 w7 w8 w9 w10 w11 w12 w13 w17 w22 w24 w25 w26 w27 w28 w30 w31 w33 f19 (hf20) s.heap.size) (kV_X9_count hE (e852 hE) rfl rfl ⟨(Nat.le_of_ble_eq_true rfl), (Nat.le_of_ble_eq_true rfl)⟩) [1, 2, 3, 4, 5] rfl (by decide) rfl hl.1 rfl (lv_room (Nat.le_of_ble_eq_true rfl)) dL_count_4 ⟨(Nat.le_of_ble_eq_true rfl), (Nat.le_of_ble_eq_true rfl)⟩) hP hD hS hA [1, 2, 3, 4, 5] [0] rfl rfl (by decide) (by decide) (fun u1 H locs hP hD hS => ?_)
  have hP : va_P g.1 vwCl [(q2, .inl (g.2 1, 1, .inr (.inl f34))), (q21, .inr (8, [w22, .ref q29, w24, w25, w26, w27, w28])), (q1, .inr (11, [.ref q14, w4, w5, w6, w7, w8, w9, w10, w11, w12, w13])), (q18, .inl (g.2 3, 10, .inr (.inr (.inr (.inr f19))))), (q14, .inr (10, [.ref q18, .int 0, w17])), (q29, .inr (9, [w30, w31, .int 1, w33]))] H := hP
  have hD : va_D A [(q2, .inl (g.2 1, 1, .inr (.inl f34))), (q21, .inr (8, [w22, .ref q29, w24, w25, w26, w27, w28])), (q1, .inr (11, [.ref q14, w4, w5, w6, w7, w8, w9, w10, w11, w12, w13])), (q18, .inl (g.2 3, 10, .inr (.inr (.inr (.inr f19))))), (q14, .inr (10, [.ref q18, .int 0, w17])), (q29, .inr (9, [w30, w31, .int 1, w33]))] := hD
  refine lv_i2l (v := 1) hx hb dL_count_7 (by decide) ?_
  refine x_last (ws' := [(q2, .inl (g.2 1, 1, .inr (.inl (vp_updL f34 0 1)))), (q21, .inr (8, [w22, .ref q29, w24, w25, w26, w27, w28])), (q1, .inr (11, [.ref q14, w4, w5, w6, w7, w8, w9, w10, w11, w12, w13])), (q18, .inl (g.2 3, 10, .inr (.inr (.inr (.inr f19))))), (q14, .inr (10, [.ref q18, .int 0, w17])), (q29, .inr (9, [w30, w31, .int 1, w33]))]) hx hb hE hP hD hS 0 rfl 0 (x_in (by decide)) (by decide) dL_count_8 rfl (fun H locs hP hD hS => ?_)
  refine lv_goto (tgt := 15) hx hb dL_count_9 (by decide) ?_
  refine lv_iconst (v := 0) hx hb dL_count_15 (by decide) ?_
  exact x_zret hx hb hr rfl rfl hlocks hP hD hS hAe hsz (Nat.le_of_ble_eq_true rfl) (Nat.le_of_ble_eq_true rfl) (fun _ => 0) [0] (by decide) rfl dL_count_16

set_option maxHeartbeats 4000000 in
set_option maxRecDepth 100000 in
theorem c1661_X10_in (l : Launch) (g : gG) (sz : Nat) : Met l yX10_in [Cond.code yX10_in cX10_in 3 (some .boolean)] ({ frames := 0, cells := 0, slots := 0, locals := 0 } : Room) (va_Pc [.int 5, .int 0, .int 8] (PX g sz [])) (QI g [] sz 1 (fun _ => [])) 0 0 (va_A [] sz) := by
  refine ofN (by decide) (Nat.le_of_ble_eq_true rfl) rfl ?_
  intro p e s m args below meth c A ls hAe hsz hx hb hml hr hlocks hin hown hE hP hD hA hS hl
  have hown : s.vm.findClass RX10 = some m.cls := hown
  refine lv_iload_n hx hb dX10_in_0 rfl (lv_at hl 0 rfl) ?_
  refine lv_iload_n hx hb dX10_in_1 rfl (lv_at hl 1 rfl) ?_
  refine lv_icmp_lt (tgt := 14) hx hb dX10_in_2 (by decide) (fun h => absurd h (by decide)) (fun _ => ?_)
  refine lv_iload_n hx hb dX10_in_5 rfl (lv_at hl 0 rfl) ?_
  refine lv_iload_n hx hb dX10_in_6 rfl (lv_at hl 2 rfl) ?_
  refine lv_icmp_gt (tgt := 14) hx hb dX10_in_7 (by decide) (fun h => absurd h (by decide)) (fun _ => ?_)
  refine lv_iconst (v := 1) hx hb dX10_in_10 (by decide) ?_
  refine lv_goto (tgt := 15) hx hb dX10_in_11 (by decide) ?_
  exact x_zret hx hb hr rfl rfl hlocks hP hD hS hAe hsz (Nat.le_of_ble_eq_true rfl) (Nat.le_of_ble_eq_true rfl) (fun _ => 0) [] (by decide) rfl dX10_in_15

set_option maxHeartbeats 4000000 in
set_option maxRecDepth 100000 in
theorem c1662_X10_count (l : Launch) (g : gG) (q1 q39 q40 q41 q42 : Nat) (w3 w4 w5 w6 w7 w8 w11 w12 w13 w14 w15 w16 w17 w18 w19 w20 w21 w22 w23 w24 w25 w26 w28 w29 w30 w31 w32 w33 w34 w35 w36 w37 w38 : Value) (f43 : Nat → Int32) (f53 : Nat → Int32) (hf44 : f43 0 = 0) (hf45 : f43 49 = 0) (hf46 : f43 98 = 0) (hf47 : f43 147 = 0) (hf48 : f43 196 = 0) (hf49 : f43 245 = 0) (hf50 : f43 294 = 0) (hf51 : f43 343 = 0) (hf52 : f43 392 = 0) (hf54 : f53 0 = 0) (hf55 : f53 1 = 0) (hf56 : f53 2 = 0) (hf57 : f53 3 = 0) (hf58 : f53 4 = 0) (hf59 : f53 5 = 0) (hf60 : f53 6 = 0) (hf61 : f53 7 = 0) (hf62 : f43 453 = 1) (sz : Nat) : Met l yX10_count [Cond.code yX10_count cX10_count 6 (some .int)] ({ frames := 4, cells := 0, slots := 0, locals := 89 } : Room) (va_Pc [.ref q1, .int 5] (PX g sz [(q42, .inl (g.2 0, 8, .inl f53)), (q41, .inl (g.2 0, 8, .inl f53)), (q40, .inl (g.2 0, 8, .inl f53)), (q39, .inl (g.2 0, 497, .inl f43)), (q1, .inr (12, [.ref q39, w3, w4, w5, w6, w7, w8, .ref q40, .ref q41, w11, w12, w13, w14, w15, w16, w17, w18, w19, w20, w21, w22, w23, w24, w25, w26, .ref q42, w28, w29, w30, w31, w32, w33, w34, w35, w36, w37, w38]))])) (QI g [(q42, .inl (g.2 0, 8, .inl f53)), (q41, .inl (g.2 0, 8, .inl f53)), (q40, .inl (g.2 0, 8, .inl f53)), (q39, .inl (g.2 0, 497, .inl f43)), (q1, .inr (12, [.ref q39, w3, w4, w5, w6, w7, w8, .ref q40, .ref q41, w11, w12, w13, w14, w15, w16, w17, w18, w19, w20, w21, w22, w23, w24, w25, w26, .ref q42, w28, w29, w30, w31, w32, w33, w34, w35, w36, w37, w38]))] sz 1 (fun _ => [(q1, .inr (12, [.ref q39, w3, w4, w5, w6, w7, .int 0, .ref q40, .ref q41, w11, w12, w13, w14, w15, .int 0, w17, w18, w19, w20, w21, w22, w23, w24, w25, w26, .ref q42, w28, w29, w30, w31, w32, w33, w34, w35, w36, w37, w38]))])) 0 0 (va_A [(q42, .inl (g.2 0, 8, .inl f53)), (q41, .inl (g.2 0, 8, .inl f53)), (q40, .inl (g.2 0, 8, .inl f53)), (q39, .inl (g.2 0, 497, .inl f43)), (q1, .inr (12, [.ref q39, w3, w4, w5, w6, w7, w8, .ref q40, .ref q41, w11, w12, w13, w14, w15, w16, w17, w18, w19, w20, w21, w22, w23, w24, w25, w26, .ref q42, w28, w29, w30, w31, w32, w33, w34, w35, w36, w37, w38]))] sz) := by
  refine ofN (by decide) (Nat.le_of_ble_eq_true rfl) rfl ?_
  intro p e s m args below meth c A ls hAe hsz hx hb hml hr hlocks hin hown hE hP hD hA hS hl
  have hown : s.vm.findClass RX10 = some m.cls := hown
  refine lv_aload_n hx hb dX10_count_0 rfl (lv_at hl 0 rfl) ?_
  refine lv_iconst (v := 0) hx hb dX10_count_1 (by decide) ?_
  refine pf_RX10_86 (ws' := [(q42, .inl (g.2 0, 8, .inl f53)), (q41, .inl (g.2 0, 8, .inl f53)), (q40, .inl (g.2 0, 8, .inl f53)), (q39, .inl (g.2 0, 497, .inl f43)), (q1, .inr (12, [.ref q39, w3, w4, w5, w6, w7, .int 0, .ref q40, .ref q41, w11, w12, w13, w14, w15, w16, w17, w18, w19, w20, w21, w22, w23, w24, w25, w26, .ref q42, w28, w29, w30, w31, w32, w33, w34, w35, w36, w37, w38]))]) hx hb hown hE hP hD hS 4 rfl rfl rfl (Nat.le_of_ble_eq_true rfl) dX10_count_2 rfl (fun H locs hP hD hS => ?_)
  refine lv_iload_n hx hb dX10_count_5 rfl (lv_at hl 1 rfl) ?_
  refine lv_iconst (v := 0) hx hb dX10_count_6 (by decide) ?_
  refine lv_bipush (v := 8) hx hb dX10_count_7 (by decide) ?_
  refine g0_i (rS (rest := []) hx hb hml hown hE hP hD (c1661_X10_in l g H.size) (kS_X10_in hE (e1431 hE) rfl rfl ⟨(Nat.le_of_ble_eq_true rfl), (Nat.le_of_ble_eq_true rfl)⟩) [] rfl (by decide) rfl hl.1 rfl (lv_room (Nat.le_of_ble_eq_true rfl)) dX10_count_9 ⟨(Nat.le_of_ble_eq_true rfl), (Nat.le_of_ble_eq_true rfl)⟩) hP hD hS hA (fun u9 H locs hP hS => ?_)
  refine lv_if_ne (tgt := 21) hx hb dX10_count_12 (by decide) (fun _ => ?_) (fun h => absurd h (by decide))
  refine lv_aload_n hx hb dX10_count_21 rfl (lv_at hl 0 rfl) ?_
  refine g_v (wr := []) (rV (rest := []) hx hb hml hown hE hP hD 4 rfl rfl (c1632_X10_layNotes l g q1 q39 q40 q41 q42 w3 w4 w5 w6 w7 (.int 0) w11 w12 w13 w14 w15 w16 w17 w18 w19 w20 w21 w22 w23 w24 w25 w26 w28 w29 w30 w31 w32 w33 w34 w35 w36 w37 w38 f43 f53 (hf44) (hf45) (hf46) (hf47) (hf48) (hf49) (hf50) (hf51) (hf54) (hf55) (hf56) (hf57) (hf58) (hf59) (hf60) (hf61) (hf52) H.size) (kV_X10_layNotes hE (e1543 hE) rfl rfl ⟨(Nat.le_of_ble_eq_true rfl), (Nat.le_of_ble_eq_true rfl)⟩) [0, 1, 2, 3, 4] rfl (by decide) rfl hl.1 rfl (lv_room (Nat.le_of_ble_eq_true rfl)) dX10_count_22 ⟨(Nat.le_of_ble_eq_true rfl), (Nat.le_of_ble_eq_true rfl)⟩) hP hD hS hA [0, 1, 2, 3, 4] [] rfl rfl (by decide) (by decide) (fun u2 H locs hP hD hS => ?_)
  have hP : va_P g.1 vwCl [(q41, .inl (g.2 0, 8, .inl f53)), (q40, .inl (g.2 0, 8, .inl f53)), (q39, .inl (g.2 0, 497, .inl f43)), (q42, .inl (g.2 0, 8, .inl (upd (upd (upd (upd (upd (upd (upd (upd f53 0 (-1)) 1 (-1)) 2 (-1)) 3 (-1)) 4 (-1)) 5 (-1)) 6 (-1)) 7 (-1)))), (q1, .inr (12, [.ref q39, w3, w4, w5, w6, w7, .int 0, .ref q40, .ref q41, w11, w12, w13, w14, w15, .int 0, w17, w18, w19, w20, w21, w22, w23, w24, w25, w26, .ref q42, w28, w29, w30, w31, w32, w33, w34, w35, w36, w37, w38]))] H := hP
  have hD : va_D A [(q41, .inl (g.2 0, 8, .inl f53)), (q40, .inl (g.2 0, 8, .inl f53)), (q39, .inl (g.2 0, 497, .inl f43)), (q42, .inl (g.2 0, 8, .inl (upd (upd (upd (upd (upd (upd (upd (upd f53 0 (-1)) 1 (-1)) 2 (-1)) 3 (-1)) 4 (-1)) 5 (-1)) 6 (-1)) 7 (-1)))), (q1, .inr (12, [.ref q39, w3, w4, w5, w6, w7, .int 0, .ref q40, .ref q41, w11, w12, w13, w14, w15, .int 0, w17, w18, w19, w20, w21, w22, w23, w24, w25, w26, .ref q42, w28, w29, w30, w31, w32, w33, w34, w35, w36, w37, w38]))] := hD
  refine lv_iconst (v := 0) hx hb dX10_count_25 (by decide) ?_
  refine lv_istore_n (lv' := [(2, .int 0), (0, .ref q1), (1, .int 5)]) hx hb dX10_count_26 rfl hl (by decide) rfl (fun ls hl => ?_)
  refine lv_iconst (v := 0) hx hb dX10_count_27 (by decide) ?_
  refine lv_istore_n (lv' := [(3, .int 0), (2, .int 0), (0, .ref q1), (1, .int 5)]) hx hb dX10_count_28 rfl hl (by decide) rfl (fun ls hl => ?_)
  refine lv_iconst (v := 0) hx hb dX10_count_29 (by decide) ?_
  refine lv_istore (lv' := [(4, .int 0), (3, .int 0), (2, .int 0), (0, .ref q1), (1, .int 5)]) hx hb dX10_count_30 hl (by decide) rfl (fun ls hl => ?_)
  refine lv_iconst (v := 0) hx hb dX10_count_32 (by decide) ?_
  refine lv_istore (lv' := [(5, .int 0), (4, .int 0), (3, .int 0), (2, .int 0), (0, .ref q1), (1, .int 5)]) hx hb dX10_count_33 hl (by decide) rfl (fun ls hl => ?_)
  refine lv_iload hx hb dX10_count_35 (lv_at hl 0 rfl) ?_
  refine lv_aload_n hx hb dX10_count_37 rfl (lv_at hl 4 rfl) ?_
  refine gf_RX10_176 hx hb hown hE hP 4 rfl rfl dX10_count_38 ?_
  refine lv_icmp_ge (tgt := 100) hx hb dX10_count_41 (by decide) (fun _ => ?_) (fun h => absurd (by decide) h)
  refine lv_iload_n hx hb dX10_count_100 rfl (lv_at hl 5 rfl) ?_
  refine lv_tableIn (tgt := 175) hx hb dX10_count_101 (by decide) (by decide) rfl (by decide) ?_
  refine lv_aload_n hx hb dX10_count_175 rfl (lv_at hl 4 rfl) ?_
  refine gf_RX10_9 hx hb hown hE hP 4 rfl rfl dX10_count_176 ?_
  refine lv_sipush (v := 453) hx hb dX10_count_179 (by decide) ?_
  refine x_iald (v := 1) hx hb hE hP 2 rfl 453 (x_in (by decide)) (by decide) hf62 dX10_count_182 ?_
  exact x_zret hx hb hr rfl rfl hlocks hP hD hS hAe hsz (Nat.le_of_ble_eq_true rfl) (Nat.le_of_ble_eq_true rfl) (fun _ => 0) [4] (by decide) rfl dX10_count_183

set_option maxHeartbeats 4000000 in
set_option maxRecDepth 100000 in
theorem c1663_X9_count (l : Launch) (g : gG) (q1 q13 q17 q20 q28 : Nat) (w3 w4 w5 w6 w7 w8 w9 w10 w11 w12 w16 w21 w23 w24 w25 w26 w27 w29 w30 w31 : Value) (f18 : Nat → Option Nat) (hf19 : f18 0 = some q20) (sz : Nat) : Met l yX9_count [Cond.code yX9_count cX9_count 3 (some .int)] ({ frames := 2, cells := 0, slots := 0, locals := 42 } : Room) (va_Pc [.ref q1, .int 6] (PX g sz [(q28, .inr (9, [w29, w30, w31, .int 0])), (q20, .inr (8, [w21, .ref q28, w23, w24, w25, w26, w27])), (q17, .inl (g.2 3, 10, .inr (.inr (.inr (.inr f18))))), (q13, .inr (10, [.ref q17, .int 0, w16])), (q1, .inr (11, [.ref q13, w3, w4, w5, w6, w7, w8, w9, w10, w11, w12]))])) (QI g [(q28, .inr (9, [w29, w30, w31, .int 0])), (q20, .inr (8, [w21, .ref q28, w23, w24, w25, w26, w27])), (q17, .inl (g.2 3, 10, .inr (.inr (.inr (.inr f18))))), (q13, .inr (10, [.ref q17, .int 0, w16])), (q1, .inr (11, [.ref q13, w3, w4, w5, w6, w7, w8, w9, w10, w11, w12]))] sz 0 (fun _ => [(q28, .inr (9, [w29, w30, w31, .int 0])), (q20, .inr (8, [w21, .ref q28, w23, w24, w25, w26, w27])), (q1, .inr (11, [.ref q13, w3, w4, w5, w6, w7, w8, w9, w10, w11, w12])), (q17, .inl (g.2 3, 10, .inr (.inr (.inr (.inr f18))))), (q13, .inr (10, [.ref q17, .int 0, w16]))])) 0 0 (va_A [(q28, .inr (9, [w29, w30, w31, .int 0])), (q20, .inr (8, [w21, .ref q28, w23, w24, w25, w26, w27])), (q17, .inl (g.2 3, 10, .inr (.inr (.inr (.inr f18))))), (q13, .inr (10, [.ref q17, .int 0, w16])), (q1, .inr (11, [.ref q13, w3, w4, w5, w6, w7, w8, w9, w10, w11, w12]))] sz) := by
  refine ofN (by decide) (Nat.le_of_ble_eq_true rfl) rfl ?_
  intro p e s m args below meth c A ls hAe hsz hx hb hml hr hlocks hin hown hE hP hD hA hS hl
  have hown : s.vm.findClass RX9 = some m.cls := hown
  refine lv_aload_n hx hb dX9_count_0 rfl (lv_at hl 0 rfl) ?_
  refine gf_RX9_12 hx hb hown hE hP 4 rfl rfl dX9_count_1 ?_
  refine g_r (wr := [(q28, .inr (9, [w29, w30, w31, .int 0])), (q20, .inr (8, [w21, .ref q28, w23, w24, w25, w26, w27])), (q1, .inr (11, [.ref q13, w3, w4, w5, w6, w7, w8, w9, w10, w11, w12]))]) (rV (rest := []) hx hb hml hown hE hP hD 3 rfl rfl (c71_X8_current l g q13 q17 q20 w16 f18 (hf19) s.heap.size) (kV_X8_current hE (e290 hE) rfl rfl ⟨(Nat.le_of_ble_eq_true rfl), (Nat.le_of_ble_eq_true rfl)⟩) [2, 3] rfl (by decide) rfl hl.1 rfl (lv_room (Nat.le_of_ble_eq_true rfl)) dX9_count_4 ⟨(Nat.le_of_ble_eq_true rfl), (Nat.le_of_ble_eq_true rfl)⟩) hP hD hS hA [2, 3] [0, 1, 4] rfl rfl (by decide) (by decide) (fun u1 H locs hP hD hS => ?_)
  have hP : va_P g.1 vwCl [(q28, .inr (9, [w29, w30, w31, .int 0])), (q20, .inr (8, [w21, .ref q28, w23, w24, w25, w26, w27])), (q1, .inr (11, [.ref q13, w3, w4, w5, w6, w7, w8, w9, w10, w11, w12])), (q17, .inl (g.2 3, 10, .inr (.inr (.inr (.inr f18))))), (q13, .inr (10, [.ref q17, .int 0, w16]))] H := hP
  have hD : va_D A [(q28, .inr (9, [w29, w30, w31, .int 0])), (q20, .inr (8, [w21, .ref q28, w23, w24, w25, w26, w27])), (q1, .inr (11, [.ref q13, w3, w4, w5, w6, w7, w8, w9, w10, w11, w12])), (q17, .inl (g.2 3, 10, .inr (.inr (.inr (.inr f18))))), (q13, .inr (10, [.ref q17, .int 0, w16]))] := hD
  refine lv_astore_n (lv' := [(2, .ref q20), (0, .ref q1), (1, .int 6)]) hx hb dX9_count_7 rfl hl (by decide) rfl (fun ls hl => ?_)
  refine lv_iload_n hx hb dX9_count_8 rfl (lv_at hl 2 rfl) ?_
  refine lv_tableIn (tgt := 102) hx hb dX9_count_9 (by decide) (by decide) rfl (by decide) ?_
  refine lv_aload_n hx hb dX9_count_102 rfl (lv_at hl 0 rfl) ?_
  refine gf_RX9_193 hx hb hown hE hP 1 rfl rfl dX9_count_103 ?_
  refine gf_RX9_202 hx hb hown hE hP 0 rfl rfl dX9_count_106 ?_
  exact x_zret hx hb hr rfl rfl hlocks hP hD hS hAe hsz (Nat.le_of_ble_eq_true rfl) (Nat.le_of_ble_eq_true rfl) (fun _ => 0) [0, 1, 2, 3, 4] (by decide) rfl dX9_count_109

set_option maxHeartbeats 4000000 in
set_option maxRecDepth 100000 in
theorem c1664_L_count (l : Launch) (g : gG) (hlx : l.stackTraces = false) (q1 q2 q14 q18 q21 q29 : Nat) (w4 w5 w6 w7 w8 w9 w10 w11 w12 w13 w17 w22 w24 w25 w26 w27 w28 w30 w31 w32 : Value) (f19 : Nat → Option Nat) (f34 : Nat → Int64) (hf20 : f19 0 = some q21) (sz : Nat) : Met l yL_count [Cond.codeWith yL_count cL_count 4 (some .int) [(0, 9, 12, 15)]] ({ frames := 3, cells := 0, slots := 0, locals := 64 } : Room) (va_Pc [.ref q1, .int 6, .ref q2] (PZ g sz [(q2, .inl (g.2 1, 1, .inr (.inl f34))), (q29, .inr (9, [w30, w31, w32, .int 0])), (q21, .inr (8, [w22, .ref q29, w24, w25, w26, w27, w28])), (q18, .inl (g.2 3, 10, .inr (.inr (.inr (.inr f19))))), (q14, .inr (10, [.ref q18, .int 0, w17])), (q1, .inr (11, [.ref q14, w4, w5, w6, w7, w8, w9, w10, w11, w12, w13]))])) (QI g [(q2, .inl (g.2 1, 1, .inr (.inl f34))), (q29, .inr (9, [w30, w31, w32, .int 0])), (q21, .inr (8, [w22, .ref q29, w24, w25, w26, w27, w28])), (q18, .inl (g.2 3, 10, .inr (.inr (.inr (.inr f19))))), (q14, .inr (10, [.ref q18, .int 0, w17])), (q1, .inr (11, [.ref q14, w4, w5, w6, w7, w8, w9, w10, w11, w12, w13]))] sz 0 (fun _ => [(q2, .inl (g.2 1, 1, .inr (.inl (vp_updL f34 0 0))))])) 0 0 (va_A [(q2, .inl (g.2 1, 1, .inr (.inl f34))), (q29, .inr (9, [w30, w31, w32, .int 0])), (q21, .inr (8, [w22, .ref q29, w24, w25, w26, w27, w28])), (q18, .inl (g.2 3, 10, .inr (.inr (.inr (.inr f19))))), (q14, .inr (10, [.ref q18, .int 0, w17])), (q1, .inr (11, [.ref q14, w4, w5, w6, w7, w8, w9, w10, w11, w12, w13]))] sz) := by
  refine ofH (by decide) (Nat.le_of_ble_eq_true rfl) rfl ?_
  intro p e s m args below meth c A ls hAe hsz hx hb hml hr hlocks hin hown hE hP hD hA hS hl htb hz
  have hown : s.vm.findClass RL = some m.cls := hown
  refine lv_aload_n hx hb dL_count_0 rfl (lv_at hl 2 rfl) ?_
  refine lv_iconst (v := 0) hx hb dL_count_1 (by decide) ?_
  refine lv_aload_n hx hb dL_count_2 rfl (lv_at hl 0 rfl) ?_
  refine lv_iload_n hx hb dL_count_3 rfl (lv_at hl 1 rfl) ?_
  refine g_i (wr := [(q2, .inl (g.2 1, 1, .inr (.inl f34)))]) (rV (rest := [.int 0, .ref q2]) hx hb hml hown hE hP hD 5 rfl rfl (c1663_X9_count l g q1 q14 q18 q21 q29 w4 w5 w6 w7 w8 w9 w10 w11 w12 w13 w17 w22 w24 w25 w26 w27 w28 w30 w31 w32 f19 (hf20) s.heap.size) (kV_X9_count hE (e852 hE) rfl rfl ⟨(Nat.le_of_ble_eq_true rfl), (Nat.le_of_ble_eq_true rfl)⟩) [1, 2, 3, 4, 5] rfl (by decide) rfl hl.1 rfl (lv_room (Nat.le_of_ble_eq_true rfl)) dL_count_4 ⟨(Nat.le_of_ble_eq_true rfl), (Nat.le_of_ble_eq_true rfl)⟩) hP hD hS hA [1, 2, 3, 4, 5] [0] rfl rfl (by decide) (by decide) (fun u1 H locs hP hD hS => ?_)
  have hP : va_P g.1 vwCl [(q2, .inl (g.2 1, 1, .inr (.inl f34))), (q29, .inr (9, [w30, w31, w32, .int 0])), (q21, .inr (8, [w22, .ref q29, w24, w25, w26, w27, w28])), (q1, .inr (11, [.ref q14, w4, w5, w6, w7, w8, w9, w10, w11, w12, w13])), (q18, .inl (g.2 3, 10, .inr (.inr (.inr (.inr f19))))), (q14, .inr (10, [.ref q18, .int 0, w17]))] H := hP
  have hD : va_D A [(q2, .inl (g.2 1, 1, .inr (.inl f34))), (q29, .inr (9, [w30, w31, w32, .int 0])), (q21, .inr (8, [w22, .ref q29, w24, w25, w26, w27, w28])), (q1, .inr (11, [.ref q14, w4, w5, w6, w7, w8, w9, w10, w11, w12, w13])), (q18, .inl (g.2 3, 10, .inr (.inr (.inr (.inr f19))))), (q14, .inr (10, [.ref q18, .int 0, w17]))] := hD
  refine lv_i2l (v := 0) hx hb dL_count_7 (by decide) ?_
  refine x_last (ws' := [(q2, .inl (g.2 1, 1, .inr (.inl (vp_updL f34 0 0)))), (q29, .inr (9, [w30, w31, w32, .int 0])), (q21, .inr (8, [w22, .ref q29, w24, w25, w26, w27, w28])), (q1, .inr (11, [.ref q14, w4, w5, w6, w7, w8, w9, w10, w11, w12, w13])), (q18, .inl (g.2 3, 10, .inr (.inr (.inr (.inr f19))))), (q14, .inr (10, [.ref q18, .int 0, w17]))]) hx hb hE hP hD hS 0 rfl 0 (x_in (by decide)) (by decide) dL_count_8 rfl (fun H locs hP hD hS => ?_)
  refine lv_goto (tgt := 15) hx hb dL_count_9 (by decide) ?_
  refine lv_iconst (v := 0) hx hb dL_count_15 (by decide) ?_
  exact x_zret hx hb hr rfl rfl hlocks hP hD hS hAe hsz (Nat.le_of_ble_eq_true rfl) (Nat.le_of_ble_eq_true rfl) (fun _ => 0) [0] (by decide) rfl dL_count_16

set_option maxHeartbeats 4000000 in
set_option maxRecDepth 100000 in
theorem c1665_X10_in (l : Launch) (g : gG) (sz : Nat) : Met l yX10_in [Cond.code yX10_in cX10_in 3 (some .boolean)] ({ frames := 0, cells := 0, slots := 0, locals := 0 } : Room) (va_Pc [.int 6, .int 0, .int 8] (PX g sz [])) (QI g [] sz 1 (fun _ => [])) 0 0 (va_A [] sz) := by
  refine ofN (by decide) (Nat.le_of_ble_eq_true rfl) rfl ?_
  intro p e s m args below meth c A ls hAe hsz hx hb hml hr hlocks hin hown hE hP hD hA hS hl
  have hown : s.vm.findClass RX10 = some m.cls := hown
  refine lv_iload_n hx hb dX10_in_0 rfl (lv_at hl 0 rfl) ?_
  refine lv_iload_n hx hb dX10_in_1 rfl (lv_at hl 1 rfl) ?_
  refine lv_icmp_lt (tgt := 14) hx hb dX10_in_2 (by decide) (fun h => absurd h (by decide)) (fun _ => ?_)
  refine lv_iload_n hx hb dX10_in_5 rfl (lv_at hl 0 rfl) ?_
  refine lv_iload_n hx hb dX10_in_6 rfl (lv_at hl 2 rfl) ?_
  refine lv_icmp_gt (tgt := 14) hx hb dX10_in_7 (by decide) (fun h => absurd h (by decide)) (fun _ => ?_)
  refine lv_iconst (v := 1) hx hb dX10_in_10 (by decide) ?_
  refine lv_goto (tgt := 15) hx hb dX10_in_11 (by decide) ?_
  exact x_zret hx hb hr rfl rfl hlocks hP hD hS hAe hsz (Nat.le_of_ble_eq_true rfl) (Nat.le_of_ble_eq_true rfl) (fun _ => 0) [] (by decide) rfl dX10_in_15

set_option maxHeartbeats 4000000 in
set_option maxRecDepth 100000 in
theorem c1666_X10_count (l : Launch) (g : gG) (q1 q39 q40 q41 q42 : Nat) (w3 w4 w5 w6 w7 w8 w11 w12 w13 w14 w15 w16 w17 w18 w19 w20 w21 w22 w23 w24 w25 w26 w28 w29 w30 w31 w32 w33 w34 w35 w36 w37 w38 : Value) (f43 : Nat → Int32) (f53 : Nat → Int32) (hf44 : f43 0 = 0) (hf45 : f43 49 = 0) (hf46 : f43 98 = 0) (hf47 : f43 147 = 0) (hf48 : f43 196 = 0) (hf49 : f43 245 = 0) (hf50 : f43 294 = 0) (hf51 : f43 343 = 0) (hf52 : f43 392 = 0) (hf54 : f53 0 = 0) (hf55 : f53 1 = 0) (hf56 : f53 2 = 0) (hf57 : f53 3 = 0) (hf58 : f53 4 = 0) (hf59 : f53 5 = 0) (hf60 : f53 6 = 0) (hf61 : f53 7 = 0) (hf62 : f43 494 = 0) (sz : Nat) : Met l yX10_count [Cond.code yX10_count cX10_count 6 (some .int)] ({ frames := 4, cells := 0, slots := 0, locals := 89 } : Room) (va_Pc [.ref q1, .int 6] (PX g sz [(q42, .inl (g.2 0, 8, .inl f53)), (q41, .inl (g.2 0, 8, .inl f53)), (q40, .inl (g.2 0, 8, .inl f53)), (q39, .inl (g.2 0, 497, .inl f43)), (q1, .inr (12, [.ref q39, w3, w4, w5, w6, w7, w8, .ref q40, .ref q41, w11, w12, w13, w14, w15, w16, w17, w18, w19, w20, w21, w22, w23, w24, w25, w26, .ref q42, w28, w29, w30, w31, w32, w33, w34, w35, w36, w37, w38]))])) (QI g [(q42, .inl (g.2 0, 8, .inl f53)), (q41, .inl (g.2 0, 8, .inl f53)), (q40, .inl (g.2 0, 8, .inl f53)), (q39, .inl (g.2 0, 497, .inl f43)), (q1, .inr (12, [.ref q39, w3, w4, w5, w6, w7, w8, .ref q40, .ref q41, w11, w12, w13, w14, w15, w16, w17, w18, w19, w20, w21, w22, w23, w24, w25, w26, .ref q42, w28, w29, w30, w31, w32, w33, w34, w35, w36, w37, w38]))] sz 0 (fun _ => [(q1, .inr (12, [.ref q39, w3, w4, w5, w6, w7, .int 0, .ref q40, .ref q41, w11, w12, w13, w14, w15, .int 0, w17, w18, w19, w20, w21, w22, w23, w24, w25, w26, .ref q42, w28, w29, w30, w31, w32, w33, w34, w35, w36, w37, w38]))])) 0 0 (va_A [(q42, .inl (g.2 0, 8, .inl f53)), (q41, .inl (g.2 0, 8, .inl f53)), (q40, .inl (g.2 0, 8, .inl f53)), (q39, .inl (g.2 0, 497, .inl f43)), (q1, .inr (12, [.ref q39, w3, w4, w5, w6, w7, w8, .ref q40, .ref q41, w11, w12, w13, w14, w15, w16, w17, w18, w19, w20, w21, w22, w23, w24, w25, w26, .ref q42, w28, w29, w30, w31, w32, w33, w34, w35, w36, w37, w38]))] sz) := by
  refine ofN (by decide) (Nat.le_of_ble_eq_true rfl) rfl ?_
  intro p e s m args below meth c A ls hAe hsz hx hb hml hr hlocks hin hown hE hP hD hA hS hl
  have hown : s.vm.findClass RX10 = some m.cls := hown
  refine lv_aload_n hx hb dX10_count_0 rfl (lv_at hl 0 rfl) ?_
  refine lv_iconst (v := 0) hx hb dX10_count_1 (by decide) ?_
  refine pf_RX10_86 (ws' := [(q42, .inl (g.2 0, 8, .inl f53)), (q41, .inl (g.2 0, 8, .inl f53)), (q40, .inl (g.2 0, 8, .inl f53)), (q39, .inl (g.2 0, 497, .inl f43)), (q1, .inr (12, [.ref q39, w3, w4, w5, w6, w7, .int 0, .ref q40, .ref q41, w11, w12, w13, w14, w15, w16, w17, w18, w19, w20, w21, w22, w23, w24, w25, w26, .ref q42, w28, w29, w30, w31, w32, w33, w34, w35, w36, w37, w38]))]) hx hb hown hE hP hD hS 4 rfl rfl rfl (Nat.le_of_ble_eq_true rfl) dX10_count_2 rfl (fun H locs hP hD hS => ?_)
  refine lv_iload_n hx hb dX10_count_5 rfl (lv_at hl 1 rfl) ?_
  refine lv_iconst (v := 0) hx hb dX10_count_6 (by decide) ?_
  refine lv_bipush (v := 8) hx hb dX10_count_7 (by decide) ?_
  refine g0_i (rS (rest := []) hx hb hml hown hE hP hD (c1665_X10_in l g H.size) (kS_X10_in hE (e1431 hE) rfl rfl ⟨(Nat.le_of_ble_eq_true rfl), (Nat.le_of_ble_eq_true rfl)⟩) [] rfl (by decide) rfl hl.1 rfl (lv_room (Nat.le_of_ble_eq_true rfl)) dX10_count_9 ⟨(Nat.le_of_ble_eq_true rfl), (Nat.le_of_ble_eq_true rfl)⟩) hP hD hS hA (fun u9 H locs hP hS => ?_)
  refine lv_if_ne (tgt := 21) hx hb dX10_count_12 (by decide) (fun _ => ?_) (fun h => absurd h (by decide))
  refine lv_aload_n hx hb dX10_count_21 rfl (lv_at hl 0 rfl) ?_
  refine g_v (wr := []) (rV (rest := []) hx hb hml hown hE hP hD 4 rfl rfl (c1632_X10_layNotes l g q1 q39 q40 q41 q42 w3 w4 w5 w6 w7 (.int 0) w11 w12 w13 w14 w15 w16 w17 w18 w19 w20 w21 w22 w23 w24 w25 w26 w28 w29 w30 w31 w32 w33 w34 w35 w36 w37 w38 f43 f53 (hf44) (hf45) (hf46) (hf47) (hf48) (hf49) (hf50) (hf51) (hf54) (hf55) (hf56) (hf57) (hf58) (hf59) (hf60) (hf61) (hf52) H.size) (kV_X10_layNotes hE (e1543 hE) rfl rfl ⟨(Nat.le_of_ble_eq_true rfl), (Nat.le_of_ble_eq_true rfl)⟩) [0, 1, 2, 3, 4] rfl (by decide) rfl hl.1 rfl (lv_room (Nat.le_of_ble_eq_true rfl)) dX10_count_22 ⟨(Nat.le_of_ble_eq_true rfl), (Nat.le_of_ble_eq_true rfl)⟩) hP hD hS hA [0, 1, 2, 3, 4] [] rfl rfl (by decide) (by decide) (fun u2 H locs hP hD hS => ?_)
  have hP : va_P g.1 vwCl [(q41, .inl (g.2 0, 8, .inl f53)), (q40, .inl (g.2 0, 8, .inl f53)), (q39, .inl (g.2 0, 497, .inl f43)), (q42, .inl (g.2 0, 8, .inl (upd (upd (upd (upd (upd (upd (upd (upd f53 0 (-1)) 1 (-1)) 2 (-1)) 3 (-1)) 4 (-1)) 5 (-1)) 6 (-1)) 7 (-1)))), (q1, .inr (12, [.ref q39, w3, w4, w5, w6, w7, .int 0, .ref q40, .ref q41, w11, w12, w13, w14, w15, .int 0, w17, w18, w19, w20, w21, w22, w23, w24, w25, w26, .ref q42, w28, w29, w30, w31, w32, w33, w34, w35, w36, w37, w38]))] H := hP
  have hD : va_D A [(q41, .inl (g.2 0, 8, .inl f53)), (q40, .inl (g.2 0, 8, .inl f53)), (q39, .inl (g.2 0, 497, .inl f43)), (q42, .inl (g.2 0, 8, .inl (upd (upd (upd (upd (upd (upd (upd (upd f53 0 (-1)) 1 (-1)) 2 (-1)) 3 (-1)) 4 (-1)) 5 (-1)) 6 (-1)) 7 (-1)))), (q1, .inr (12, [.ref q39, w3, w4, w5, w6, w7, .int 0, .ref q40, .ref q41, w11, w12, w13, w14, w15, .int 0, w17, w18, w19, w20, w21, w22, w23, w24, w25, w26, .ref q42, w28, w29, w30, w31, w32, w33, w34, w35, w36, w37, w38]))] := hD
  refine lv_iconst (v := 0) hx hb dX10_count_25 (by decide) ?_
  refine lv_istore_n (lv' := [(2, .int 0), (0, .ref q1), (1, .int 6)]) hx hb dX10_count_26 rfl hl (by decide) rfl (fun ls hl => ?_)
  refine lv_iconst (v := 0) hx hb dX10_count_27 (by decide) ?_
  refine lv_istore_n (lv' := [(3, .int 0), (2, .int 0), (0, .ref q1), (1, .int 6)]) hx hb dX10_count_28 rfl hl (by decide) rfl (fun ls hl => ?_)
  refine lv_iconst (v := 0) hx hb dX10_count_29 (by decide) ?_
  refine lv_istore (lv' := [(4, .int 0), (3, .int 0), (2, .int 0), (0, .ref q1), (1, .int 6)]) hx hb dX10_count_30 hl (by decide) rfl (fun ls hl => ?_)
  refine lv_iconst (v := 0) hx hb dX10_count_32 (by decide) ?_
  refine lv_istore (lv' := [(5, .int 0), (4, .int 0), (3, .int 0), (2, .int 0), (0, .ref q1), (1, .int 6)]) hx hb dX10_count_33 hl (by decide) rfl (fun ls hl => ?_)
  refine lv_iload hx hb dX10_count_35 (lv_at hl 0 rfl) ?_
  refine lv_aload_n hx hb dX10_count_37 rfl (lv_at hl 4 rfl) ?_
  refine gf_RX10_176 hx hb hown hE hP 4 rfl rfl dX10_count_38 ?_
  refine lv_icmp_ge (tgt := 100) hx hb dX10_count_41 (by decide) (fun _ => ?_) (fun h => absurd (by decide) h)
  refine lv_iload_n hx hb dX10_count_100 rfl (lv_at hl 5 rfl) ?_
  refine lv_tableIn (tgt := 184) hx hb dX10_count_101 (by decide) (by decide) rfl (by decide) ?_
  refine lv_aload_n hx hb dX10_count_184 rfl (lv_at hl 4 rfl) ?_
  refine gf_RX10_9 hx hb hown hE hP 4 rfl rfl dX10_count_185 ?_
  refine lv_sipush (v := 494) hx hb dX10_count_188 (by decide) ?_
  refine x_iald (v := 0) hx hb hE hP 2 rfl 494 (x_in (by decide)) (by decide) hf62 dX10_count_191 ?_
  exact x_zret hx hb hr rfl rfl hlocks hP hD hS hAe hsz (Nat.le_of_ble_eq_true rfl) (Nat.le_of_ble_eq_true rfl) (fun _ => 0) [4] (by decide) rfl dX10_count_192

set_option maxHeartbeats 4000000 in
set_option maxRecDepth 100000 in
theorem c1667_X9_count (l : Launch) (g : gG) (q1 q13 q17 q20 : Nat) (w3 w4 w5 w6 w7 w8 w9 w10 w11 w12 w16 w21 w22 w23 w24 w25 w26 : Value) (f18 : Nat → Option Nat) (hf19 : f18 0 = some q20) (sz : Nat) : Met l yX9_count [Cond.code yX9_count cX9_count 3 (some .int)] ({ frames := 2, cells := 0, slots := 0, locals := 42 } : Room) (va_Pc [.ref q1, .int 7] (PX g sz [(q20, .inr (8, [w21, w22, w23, w24, w25, w26, .int 0])), (q17, .inl (g.2 3, 10, .inr (.inr (.inr (.inr f18))))), (q13, .inr (10, [.ref q17, .int 0, w16])), (q1, .inr (11, [.ref q13, w3, w4, w5, w6, w7, w8, w9, w10, w11, w12]))])) (QI g [(q20, .inr (8, [w21, w22, w23, w24, w25, w26, .int 0])), (q17, .inl (g.2 3, 10, .inr (.inr (.inr (.inr f18))))), (q13, .inr (10, [.ref q17, .int 0, w16])), (q1, .inr (11, [.ref q13, w3, w4, w5, w6, w7, w8, w9, w10, w11, w12]))] sz 0 (fun _ => [(q20, .inr (8, [w21, w22, w23, w24, w25, w26, .int 0])), (q1, .inr (11, [.ref q13, w3, w4, w5, w6, w7, w8, w9, w10, w11, w12])), (q17, .inl (g.2 3, 10, .inr (.inr (.inr (.inr f18))))), (q13, .inr (10, [.ref q17, .int 0, w16]))])) 0 0 (va_A [(q20, .inr (8, [w21, w22, w23, w24, w25, w26, .int 0])), (q17, .inl (g.2 3, 10, .inr (.inr (.inr (.inr f18))))), (q13, .inr (10, [.ref q17, .int 0, w16])), (q1, .inr (11, [.ref q13, w3, w4, w5, w6, w7, w8, w9, w10, w11, w12]))] sz) := by
  refine ofN (by decide) (Nat.le_of_ble_eq_true rfl) rfl ?_
  intro p e s m args below meth c A ls hAe hsz hx hb hml hr hlocks hin hown hE hP hD hA hS hl
  have hown : s.vm.findClass RX9 = some m.cls := hown
  refine lv_aload_n hx hb dX9_count_0 rfl (lv_at hl 0 rfl) ?_
  refine gf_RX9_12 hx hb hown hE hP 3 rfl rfl dX9_count_1 ?_
  refine g_r (wr := [(q20, .inr (8, [w21, w22, w23, w24, w25, w26, .int 0])), (q1, .inr (11, [.ref q13, w3, w4, w5, w6, w7, w8, w9, w10, w11, w12]))]) (rV (rest := []) hx hb hml hown hE hP hD 2 rfl rfl (c71_X8_current l g q13 q17 q20 w16 f18 (hf19) s.heap.size) (kV_X8_current hE (e290 hE) rfl rfl ⟨(Nat.le_of_ble_eq_true rfl), (Nat.le_of_ble_eq_true rfl)⟩) [1, 2] rfl (by decide) rfl hl.1 rfl (lv_room (Nat.le_of_ble_eq_true rfl)) dX9_count_4 ⟨(Nat.le_of_ble_eq_true rfl), (Nat.le_of_ble_eq_true rfl)⟩) hP hD hS hA [1, 2] [0, 3] rfl rfl (by decide) (by decide) (fun u1 H locs hP hD hS => ?_)
  have hP : va_P g.1 vwCl [(q20, .inr (8, [w21, w22, w23, w24, w25, w26, .int 0])), (q1, .inr (11, [.ref q13, w3, w4, w5, w6, w7, w8, w9, w10, w11, w12])), (q17, .inl (g.2 3, 10, .inr (.inr (.inr (.inr f18))))), (q13, .inr (10, [.ref q17, .int 0, w16]))] H := hP
  have hD : va_D A [(q20, .inr (8, [w21, w22, w23, w24, w25, w26, .int 0])), (q1, .inr (11, [.ref q13, w3, w4, w5, w6, w7, w8, w9, w10, w11, w12])), (q17, .inl (g.2 3, 10, .inr (.inr (.inr (.inr f18))))), (q13, .inr (10, [.ref q17, .int 0, w16]))] := hD
  refine lv_astore_n (lv' := [(2, .ref q20), (0, .ref q1), (1, .int 7)]) hx hb dX9_count_7 rfl hl (by decide) rfl (fun ls hl => ?_)
  refine lv_iload_n hx hb dX9_count_8 rfl (lv_at hl 2 rfl) ?_
  refine lv_tableIn (tgt := 110) hx hb dX9_count_9 (by decide) (by decide) rfl (by decide) ?_
  refine lv_aload_n hx hb dX9_count_110 rfl (lv_at hl 0 rfl) ?_
  refine gf_RX9_205 hx hb hown hE hP 0 rfl rfl dX9_count_111 ?_
  exact x_zret hx hb hr rfl rfl hlocks hP hD hS hAe hsz (Nat.le_of_ble_eq_true rfl) (Nat.le_of_ble_eq_true rfl) (fun _ => 0) [0, 1, 2, 3] (by decide) rfl dX9_count_114

set_option maxHeartbeats 4000000 in
set_option maxRecDepth 100000 in
theorem c1668_L_count (l : Launch) (g : gG) (hlx : l.stackTraces = false) (q1 q2 q14 q18 q21 : Nat) (w4 w5 w6 w7 w8 w9 w10 w11 w12 w13 w17 w22 w23 w24 w25 w26 w27 : Value) (f19 : Nat → Option Nat) (f29 : Nat → Int64) (hf20 : f19 0 = some q21) (sz : Nat) : Met l yL_count [Cond.codeWith yL_count cL_count 4 (some .int) [(0, 9, 12, 15)]] ({ frames := 3, cells := 0, slots := 0, locals := 64 } : Room) (va_Pc [.ref q1, .int 7, .ref q2] (PZ g sz [(q2, .inl (g.2 1, 1, .inr (.inl f29))), (q21, .inr (8, [w22, w23, w24, w25, w26, w27, .int 0])), (q18, .inl (g.2 3, 10, .inr (.inr (.inr (.inr f19))))), (q14, .inr (10, [.ref q18, .int 0, w17])), (q1, .inr (11, [.ref q14, w4, w5, w6, w7, w8, w9, w10, w11, w12, w13]))])) (QI g [(q2, .inl (g.2 1, 1, .inr (.inl f29))), (q21, .inr (8, [w22, w23, w24, w25, w26, w27, .int 0])), (q18, .inl (g.2 3, 10, .inr (.inr (.inr (.inr f19))))), (q14, .inr (10, [.ref q18, .int 0, w17])), (q1, .inr (11, [.ref q14, w4, w5, w6, w7, w8, w9, w10, w11, w12, w13]))] sz 0 (fun _ => [(q2, .inl (g.2 1, 1, .inr (.inl (vp_updL f29 0 0))))])) 0 0 (va_A [(q2, .inl (g.2 1, 1, .inr (.inl f29))), (q21, .inr (8, [w22, w23, w24, w25, w26, w27, .int 0])), (q18, .inl (g.2 3, 10, .inr (.inr (.inr (.inr f19))))), (q14, .inr (10, [.ref q18, .int 0, w17])), (q1, .inr (11, [.ref q14, w4, w5, w6, w7, w8, w9, w10, w11, w12, w13]))] sz) := by
  refine ofH (by decide) (Nat.le_of_ble_eq_true rfl) rfl ?_
  intro p e s m args below meth c A ls hAe hsz hx hb hml hr hlocks hin hown hE hP hD hA hS hl htb hz
  have hown : s.vm.findClass RL = some m.cls := hown
  refine lv_aload_n hx hb dL_count_0 rfl (lv_at hl 2 rfl) ?_
  refine lv_iconst (v := 0) hx hb dL_count_1 (by decide) ?_
  refine lv_aload_n hx hb dL_count_2 rfl (lv_at hl 0 rfl) ?_
  refine lv_iload_n hx hb dL_count_3 rfl (lv_at hl 1 rfl) ?_
  refine g_i (wr := [(q2, .inl (g.2 1, 1, .inr (.inl f29)))]) (rV (rest := [.int 0, .ref q2]) hx hb hml hown hE hP hD 4 rfl rfl (c1667_X9_count l g q1 q14 q18 q21 w4 w5 w6 w7 w8 w9 w10 w11 w12 w13 w17 w22 w23 w24 w25 w26 w27 f19 (hf20) s.heap.size) (kV_X9_count hE (e852 hE) rfl rfl ⟨(Nat.le_of_ble_eq_true rfl), (Nat.le_of_ble_eq_true rfl)⟩) [1, 2, 3, 4] rfl (by decide) rfl hl.1 rfl (lv_room (Nat.le_of_ble_eq_true rfl)) dL_count_4 ⟨(Nat.le_of_ble_eq_true rfl), (Nat.le_of_ble_eq_true rfl)⟩) hP hD hS hA [1, 2, 3, 4] [0] rfl rfl (by decide) (by decide) (fun u1 H locs hP hD hS => ?_)
  have hP : va_P g.1 vwCl [(q2, .inl (g.2 1, 1, .inr (.inl f29))), (q21, .inr (8, [w22, w23, w24, w25, w26, w27, .int 0])), (q1, .inr (11, [.ref q14, w4, w5, w6, w7, w8, w9, w10, w11, w12, w13])), (q18, .inl (g.2 3, 10, .inr (.inr (.inr (.inr f19))))), (q14, .inr (10, [.ref q18, .int 0, w17]))] H := hP
  have hD : va_D A [(q2, .inl (g.2 1, 1, .inr (.inl f29))), (q21, .inr (8, [w22, w23, w24, w25, w26, w27, .int 0])), (q1, .inr (11, [.ref q14, w4, w5, w6, w7, w8, w9, w10, w11, w12, w13])), (q18, .inl (g.2 3, 10, .inr (.inr (.inr (.inr f19))))), (q14, .inr (10, [.ref q18, .int 0, w17]))] := hD
  refine lv_i2l (v := 0) hx hb dL_count_7 (by decide) ?_
  refine x_last (ws' := [(q2, .inl (g.2 1, 1, .inr (.inl (vp_updL f29 0 0)))), (q21, .inr (8, [w22, w23, w24, w25, w26, w27, .int 0])), (q1, .inr (11, [.ref q14, w4, w5, w6, w7, w8, w9, w10, w11, w12, w13])), (q18, .inl (g.2 3, 10, .inr (.inr (.inr (.inr f19))))), (q14, .inr (10, [.ref q18, .int 0, w17]))]) hx hb hE hP hD hS 0 rfl 0 (x_in (by decide)) (by decide) dL_count_8 rfl (fun H locs hP hD hS => ?_)
  refine lv_goto (tgt := 15) hx hb dL_count_9 (by decide) ?_
  refine lv_iconst (v := 0) hx hb dL_count_15 (by decide) ?_
  exact x_zret hx hb hr rfl rfl hlocks hP hD hS hAe hsz (Nat.le_of_ble_eq_true rfl) (Nat.le_of_ble_eq_true rfl) (fun _ => 0) [0] (by decide) rfl dL_count_16

set_option maxHeartbeats 4000000 in
set_option maxRecDepth 100000 in
theorem c1669_X10_in (l : Launch) (g : gG) (sz : Nat) : Met l yX10_in [Cond.code yX10_in cX10_in 3 (some .boolean)] ({ frames := 0, cells := 0, slots := 0, locals := 0 } : Room) (va_Pc [.int 7, .int 0, .int 8] (PX g sz [])) (QI g [] sz 1 (fun _ => [])) 0 0 (va_A [] sz) := by
  refine ofN (by decide) (Nat.le_of_ble_eq_true rfl) rfl ?_
  intro p e s m args below meth c A ls hAe hsz hx hb hml hr hlocks hin hown hE hP hD hA hS hl
  have hown : s.vm.findClass RX10 = some m.cls := hown
  refine lv_iload_n hx hb dX10_in_0 rfl (lv_at hl 0 rfl) ?_
  refine lv_iload_n hx hb dX10_in_1 rfl (lv_at hl 1 rfl) ?_
  refine lv_icmp_lt (tgt := 14) hx hb dX10_in_2 (by decide) (fun h => absurd h (by decide)) (fun _ => ?_)
  refine lv_iload_n hx hb dX10_in_5 rfl (lv_at hl 0 rfl) ?_
  refine lv_iload_n hx hb dX10_in_6 rfl (lv_at hl 2 rfl) ?_
  refine lv_icmp_gt (tgt := 14) hx hb dX10_in_7 (by decide) (fun h => absurd h (by decide)) (fun _ => ?_)
  refine lv_iconst (v := 1) hx hb dX10_in_10 (by decide) ?_
  refine lv_goto (tgt := 15) hx hb dX10_in_11 (by decide) ?_
  exact x_zret hx hb hr rfl rfl hlocks hP hD hS hAe hsz (Nat.le_of_ble_eq_true rfl) (Nat.le_of_ble_eq_true rfl) (fun _ => 0) [] (by decide) rfl dX10_in_15

set_option maxHeartbeats 4000000 in
set_option maxRecDepth 100000 in
theorem c1670_X10_count (l : Launch) (g : gG) (q1 q39 q40 q41 q42 : Nat) (w3 w4 w5 w6 w7 w8 w11 w12 w13 w14 w15 w16 w17 w18 w19 w20 w21 w22 w23 w24 w25 w26 w28 w29 w30 w31 w32 w33 w34 w35 w36 w37 w38 : Value) (f43 : Nat → Int32) (f53 : Nat → Int32) (hf44 : f43 0 = 0) (hf45 : f43 49 = 0) (hf46 : f43 98 = 0) (hf47 : f43 147 = 0) (hf48 : f43 196 = 0) (hf49 : f43 245 = 0) (hf50 : f43 294 = 0) (hf51 : f43 343 = 0) (hf52 : f43 392 = 0) (hf54 : f53 0 = 0) (hf55 : f53 1 = 0) (hf56 : f53 2 = 0) (hf57 : f53 3 = 0) (hf58 : f53 4 = 0) (hf59 : f53 5 = 0) (hf60 : f53 6 = 0) (hf61 : f53 7 = 0) (hf62 : f43 496 = 0) (sz : Nat) : Met l yX10_count [Cond.code yX10_count cX10_count 6 (some .int)] ({ frames := 4, cells := 0, slots := 0, locals := 89 } : Room) (va_Pc [.ref q1, .int 7] (PX g sz [(q42, .inl (g.2 0, 8, .inl f53)), (q41, .inl (g.2 0, 8, .inl f53)), (q40, .inl (g.2 0, 8, .inl f53)), (q39, .inl (g.2 0, 497, .inl f43)), (q1, .inr (12, [.ref q39, w3, w4, w5, w6, w7, w8, .ref q40, .ref q41, w11, w12, w13, w14, w15, w16, w17, w18, w19, w20, w21, w22, w23, w24, w25, w26, .ref q42, w28, w29, w30, w31, w32, w33, w34, w35, w36, w37, w38]))])) (QI g [(q42, .inl (g.2 0, 8, .inl f53)), (q41, .inl (g.2 0, 8, .inl f53)), (q40, .inl (g.2 0, 8, .inl f53)), (q39, .inl (g.2 0, 497, .inl f43)), (q1, .inr (12, [.ref q39, w3, w4, w5, w6, w7, w8, .ref q40, .ref q41, w11, w12, w13, w14, w15, w16, w17, w18, w19, w20, w21, w22, w23, w24, w25, w26, .ref q42, w28, w29, w30, w31, w32, w33, w34, w35, w36, w37, w38]))] sz 0 (fun _ => [(q1, .inr (12, [.ref q39, w3, w4, w5, w6, w7, .int 0, .ref q40, .ref q41, w11, w12, w13, w14, w15, .int 0, w17, w18, w19, w20, w21, w22, w23, w24, w25, w26, .ref q42, w28, w29, w30, w31, w32, w33, w34, w35, w36, w37, w38]))])) 0 0 (va_A [(q42, .inl (g.2 0, 8, .inl f53)), (q41, .inl (g.2 0, 8, .inl f53)), (q40, .inl (g.2 0, 8, .inl f53)), (q39, .inl (g.2 0, 497, .inl f43)), (q1, .inr (12, [.ref q39, w3, w4, w5, w6, w7, w8, .ref q40, .ref q41, w11, w12, w13, w14, w15, w16, w17, w18, w19, w20, w21, w22, w23, w24, w25, w26, .ref q42, w28, w29, w30, w31, w32, w33, w34, w35, w36, w37, w38]))] sz) := by
  refine ofN (by decide) (Nat.le_of_ble_eq_true rfl) rfl ?_
  intro p e s m args below meth c A ls hAe hsz hx hb hml hr hlocks hin hown hE hP hD hA hS hl
  have hown : s.vm.findClass RX10 = some m.cls := hown
  refine lv_aload_n hx hb dX10_count_0 rfl (lv_at hl 0 rfl) ?_
  refine lv_iconst (v := 0) hx hb dX10_count_1 (by decide) ?_
  refine pf_RX10_86 (ws' := [(q42, .inl (g.2 0, 8, .inl f53)), (q41, .inl (g.2 0, 8, .inl f53)), (q40, .inl (g.2 0, 8, .inl f53)), (q39, .inl (g.2 0, 497, .inl f43)), (q1, .inr (12, [.ref q39, w3, w4, w5, w6, w7, .int 0, .ref q40, .ref q41, w11, w12, w13, w14, w15, w16, w17, w18, w19, w20, w21, w22, w23, w24, w25, w26, .ref q42, w28, w29, w30, w31, w32, w33, w34, w35, w36, w37, w38]))]) hx hb hown hE hP hD hS 4 rfl rfl rfl (Nat.le_of_ble_eq_true rfl) dX10_count_2 rfl (fun H locs hP hD hS => ?_)
  refine lv_iload_n hx hb dX10_count_5 rfl (lv_at hl 1 rfl) ?_
  refine lv_iconst (v := 0) hx hb dX10_count_6 (by decide) ?_
  refine lv_bipush (v := 8) hx hb dX10_count_7 (by decide) ?_
  refine g0_i (rS (rest := []) hx hb hml hown hE hP hD (c1669_X10_in l g H.size) (kS_X10_in hE (e1431 hE) rfl rfl ⟨(Nat.le_of_ble_eq_true rfl), (Nat.le_of_ble_eq_true rfl)⟩) [] rfl (by decide) rfl hl.1 rfl (lv_room (Nat.le_of_ble_eq_true rfl)) dX10_count_9 ⟨(Nat.le_of_ble_eq_true rfl), (Nat.le_of_ble_eq_true rfl)⟩) hP hD hS hA (fun u9 H locs hP hS => ?_)
  refine lv_if_ne (tgt := 21) hx hb dX10_count_12 (by decide) (fun _ => ?_) (fun h => absurd h (by decide))
  refine lv_aload_n hx hb dX10_count_21 rfl (lv_at hl 0 rfl) ?_
  refine g_v (wr := []) (rV (rest := []) hx hb hml hown hE hP hD 4 rfl rfl (c1632_X10_layNotes l g q1 q39 q40 q41 q42 w3 w4 w5 w6 w7 (.int 0) w11 w12 w13 w14 w15 w16 w17 w18 w19 w20 w21 w22 w23 w24 w25 w26 w28 w29 w30 w31 w32 w33 w34 w35 w36 w37 w38 f43 f53 (hf44) (hf45) (hf46) (hf47) (hf48) (hf49) (hf50) (hf51) (hf54) (hf55) (hf56) (hf57) (hf58) (hf59) (hf60) (hf61) (hf52) H.size) (kV_X10_layNotes hE (e1543 hE) rfl rfl ⟨(Nat.le_of_ble_eq_true rfl), (Nat.le_of_ble_eq_true rfl)⟩) [0, 1, 2, 3, 4] rfl (by decide) rfl hl.1 rfl (lv_room (Nat.le_of_ble_eq_true rfl)) dX10_count_22 ⟨(Nat.le_of_ble_eq_true rfl), (Nat.le_of_ble_eq_true rfl)⟩) hP hD hS hA [0, 1, 2, 3, 4] [] rfl rfl (by decide) (by decide) (fun u2 H locs hP hD hS => ?_)
  have hP : va_P g.1 vwCl [(q41, .inl (g.2 0, 8, .inl f53)), (q40, .inl (g.2 0, 8, .inl f53)), (q39, .inl (g.2 0, 497, .inl f43)), (q42, .inl (g.2 0, 8, .inl (upd (upd (upd (upd (upd (upd (upd (upd f53 0 (-1)) 1 (-1)) 2 (-1)) 3 (-1)) 4 (-1)) 5 (-1)) 6 (-1)) 7 (-1)))), (q1, .inr (12, [.ref q39, w3, w4, w5, w6, w7, .int 0, .ref q40, .ref q41, w11, w12, w13, w14, w15, .int 0, w17, w18, w19, w20, w21, w22, w23, w24, w25, w26, .ref q42, w28, w29, w30, w31, w32, w33, w34, w35, w36, w37, w38]))] H := hP
  have hD : va_D A [(q41, .inl (g.2 0, 8, .inl f53)), (q40, .inl (g.2 0, 8, .inl f53)), (q39, .inl (g.2 0, 497, .inl f43)), (q42, .inl (g.2 0, 8, .inl (upd (upd (upd (upd (upd (upd (upd (upd f53 0 (-1)) 1 (-1)) 2 (-1)) 3 (-1)) 4 (-1)) 5 (-1)) 6 (-1)) 7 (-1)))), (q1, .inr (12, [.ref q39, w3, w4, w5, w6, w7, .int 0, .ref q40, .ref q41, w11, w12, w13, w14, w15, .int 0, w17, w18, w19, w20, w21, w22, w23, w24, w25, w26, .ref q42, w28, w29, w30, w31, w32, w33, w34, w35, w36, w37, w38]))] := hD
  refine lv_iconst (v := 0) hx hb dX10_count_25 (by decide) ?_
  refine lv_istore_n (lv' := [(2, .int 0), (0, .ref q1), (1, .int 7)]) hx hb dX10_count_26 rfl hl (by decide) rfl (fun ls hl => ?_)
  refine lv_iconst (v := 0) hx hb dX10_count_27 (by decide) ?_
  refine lv_istore_n (lv' := [(3, .int 0), (2, .int 0), (0, .ref q1), (1, .int 7)]) hx hb dX10_count_28 rfl hl (by decide) rfl (fun ls hl => ?_)
  refine lv_iconst (v := 0) hx hb dX10_count_29 (by decide) ?_
  refine lv_istore (lv' := [(4, .int 0), (3, .int 0), (2, .int 0), (0, .ref q1), (1, .int 7)]) hx hb dX10_count_30 hl (by decide) rfl (fun ls hl => ?_)
  refine lv_iconst (v := 0) hx hb dX10_count_32 (by decide) ?_
  refine lv_istore (lv' := [(5, .int 0), (4, .int 0), (3, .int 0), (2, .int 0), (0, .ref q1), (1, .int 7)]) hx hb dX10_count_33 hl (by decide) rfl (fun ls hl => ?_)
  refine lv_iload hx hb dX10_count_35 (lv_at hl 0 rfl) ?_
  refine lv_aload_n hx hb dX10_count_37 rfl (lv_at hl 4 rfl) ?_
  refine gf_RX10_176 hx hb hown hE hP 4 rfl rfl dX10_count_38 ?_
  refine lv_icmp_ge (tgt := 100) hx hb dX10_count_41 (by decide) (fun _ => ?_) (fun h => absurd (by decide) h)
  refine lv_iload_n hx hb dX10_count_100 rfl (lv_at hl 5 rfl) ?_
  refine lv_tableIn (tgt := 193) hx hb dX10_count_101 (by decide) (by decide) rfl (by decide) ?_
  refine lv_aload_n hx hb dX10_count_193 rfl (lv_at hl 4 rfl) ?_
  refine gf_RX10_9 hx hb hown hE hP 4 rfl rfl dX10_count_194 ?_
  refine lv_sipush (v := 496) hx hb dX10_count_197 (by decide) ?_
  refine x_iald (v := 0) hx hb hE hP 2 rfl 496 (x_in (by decide)) (by decide) hf62 dX10_count_200 ?_
  exact x_zret hx hb hr rfl rfl hlocks hP hD hS hAe hsz (Nat.le_of_ble_eq_true rfl) (Nat.le_of_ble_eq_true rfl) (fun _ => 0) [4] (by decide) rfl dX10_count_201

set_option maxHeartbeats 4000000 in
set_option maxRecDepth 100000 in
theorem c1671_X5_greatestEnd (l : Launch) (g : gG) (q1 : Nat) (w2 w3 w4 w5 w6 w7 w8 w9 w10 : Value) (sz : Nat) : Met l yX5_greatestEnd [Cond.code yX5_greatestEnd cX5_greatestEnd 1 (some .int)] ({ frames := 0, cells := 0, slots := 0, locals := 0 } : Room) (va_Pc [.ref q1] (PX g sz [(q1, .inr (7, [w2, w3, w4, w5, w6, w7, w8, w9, w10, .int 0]))])) (QI g [(q1, .inr (7, [w2, w3, w4, w5, w6, w7, w8, w9, w10, .int 0]))] sz 0 (fun _ => [(q1, .inr (7, [w2, w3, w4, w5, w6, w7, w8, w9, w10, .int 0]))])) 0 0 (va_A [(q1, .inr (7, [w2, w3, w4, w5, w6, w7, w8, w9, w10, .int 0]))] sz) := by
  refine ofN (by decide) (Nat.le_of_ble_eq_true rfl) rfl ?_
  intro p e s m args below meth c A ls hAe hsz hx hb hml hr hlocks hin hown hE hP hD hA hS hl
  have hown : s.vm.findClass RX5 = some m.cls := hown
  refine lv_aload_n hx hb dX5_greatestEnd_0 rfl (lv_at hl 0 rfl) ?_
  refine gf_RX5_47 hx hb hown hE hP 0 rfl rfl dX5_greatestEnd_1 ?_
  exact x_zret hx hb hr rfl rfl hlocks hP hD hS hAe hsz (Nat.le_of_ble_eq_true rfl) (Nat.le_of_ble_eq_true rfl) (fun _ => 0) [0] (by decide) rfl dX5_greatestEnd_4

set_option maxHeartbeats 4000000 in
set_option maxRecDepth 100000 in
theorem c1672_X9_count (l : Launch) (g : gG) (q1 q13 q17 q20 q21 q32 q33 q34 q35 q45 : Nat) (w3 w5 w6 w7 w8 w9 w11 w12 w16 w22 w24 w28 w29 w30 w31 w36 w37 w38 w39 w41 w42 : Value) (f18 : Nat → Option Nat) (f43 : Nat → Int64) (f46 : Nat → Int32) (hf19 : f18 0 = some q20) (sz : Nat) : Met l yX9_count [Cond.code yX9_count cX9_count 3 (some .int)] ({ frames := 4, cells := 0, slots := 0, locals := 94 } : Room) (va_Pc [.ref q1, .int 8] (PX g sz [(q32, .inl (g.2 0, 300, .inl f46)), (q33, .inl (g.2 0, 8, .inl f46)), (q45, .inl (g.2 1, 300, .inr (.inl f43))), (q35, .inr (3, [.ref q45])), (q34, .inl (g.2 1, 300, .inr (.inl f43))), (q20, .inr (8, [w36, w37, w38, w39, .int 0, w41, w42])), (q21, .inr (7, [w22, .ref q32, w24, .ref q33, .ref q34, .ref q35, w28, w29, w30, w31])), (q17, .inl (g.2 3, 10, .inr (.inr (.inr (.inr f18))))), (q13, .inr (10, [.ref q17, .int 0, w16])), (q1, .inr (11, [.ref q13, w3, .ref q21, w5, w6, w7, w8, w9, .int 0, w11, w12]))])) (QI g [(q32, .inl (g.2 0, 300, .inl f46)), (q33, .inl (g.2 0, 8, .inl f46)), (q45, .inl (g.2 1, 300, .inr (.inl f43))), (q35, .inr (3, [.ref q45])), (q34, .inl (g.2 1, 300, .inr (.inl f43))), (q20, .inr (8, [w36, w37, w38, w39, .int 0, w41, w42])), (q21, .inr (7, [w22, .ref q32, w24, .ref q33, .ref q34, .ref q35, w28, w29, w30, w31])), (q17, .inl (g.2 3, 10, .inr (.inr (.inr (.inr f18))))), (q13, .inr (10, [.ref q17, .int 0, w16])), (q1, .inr (11, [.ref q13, w3, .ref q21, w5, w6, w7, w8, w9, .int 0, w11, w12]))] sz 0 (fun _ => [(q1, .inr (11, [.ref q13, w3, .ref q21, w5, w6, w7, w8, w9, .int 1, w11, w12])), (q17, .inl (g.2 3, 10, .inr (.inr (.inr (.inr f18))))), (q13, .inr (10, [.ref q17, .int 0, w16])), (q20, .inr (8, [w36, w37, w38, w39, .int 0, w41, w42])), (q33, .inl (g.2 0, 8, .inl (fillF 8 (-1) f46))), (q32, .inl (g.2 0, 300, .inl (fillF 300 (-1) f46))), (q45, .inl (g.2 1, 300, .inr (.inl f43))), (q35, .inr (3, [.ref q45])), (q34, .inl (g.2 1, 300, .inr (.inl f43))), (q21, .inr (7, [w22, .ref q32, w24, .ref q33, .ref q34, .ref q35, .int 0, .int 0, .int 0, .int 0]))])) 0 0 (va_A [(q32, .inl (g.2 0, 300, .inl f46)), (q33, .inl (g.2 0, 8, .inl f46)), (q45, .inl (g.2 1, 300, .inr (.inl f43))), (q35, .inr (3, [.ref q45])), (q34, .inl (g.2 1, 300, .inr (.inl f43))), (q20, .inr (8, [w36, w37, w38, w39, .int 0, w41, w42])), (q21, .inr (7, [w22, .ref q32, w24, .ref q33, .ref q34, .ref q35, w28, w29, w30, w31])), (q17, .inl (g.2 3, 10, .inr (.inr (.inr (.inr f18))))), (q13, .inr (10, [.ref q17, .int 0, w16])), (q1, .inr (11, [.ref q13, w3, .ref q21, w5, w6, w7, w8, w9, .int 0, w11, w12]))] sz) := by
  refine ofN (by decide) (Nat.le_of_ble_eq_true rfl) rfl ?_
  intro p e s m args below meth c A ls hAe hsz hx hb hml hr hlocks hin hown hE hP hD hA hS hl
  have hown : s.vm.findClass RX9 = some m.cls := hown
  refine lv_aload_n hx hb dX9_count_0 rfl (lv_at hl 0 rfl) ?_
  refine gf_RX9_12 hx hb hown hE hP 9 rfl rfl dX9_count_1 ?_
  refine g_r (wr := [(q32, .inl (g.2 0, 300, .inl f46)), (q33, .inl (g.2 0, 8, .inl f46)), (q45, .inl (g.2 1, 300, .inr (.inl f43))), (q35, .inr (3, [.ref q45])), (q34, .inl (g.2 1, 300, .inr (.inl f43))), (q20, .inr (8, [w36, w37, w38, w39, .int 0, w41, w42])), (q21, .inr (7, [w22, .ref q32, w24, .ref q33, .ref q34, .ref q35, w28, w29, w30, w31])), (q1, .inr (11, [.ref q13, w3, .ref q21, w5, w6, w7, w8, w9, .int 0, w11, w12]))]) (rV (rest := []) hx hb hml hown hE hP hD 8 rfl rfl (c71_X8_current l g q13 q17 q20 w16 f18 (hf19) s.heap.size) (kV_X8_current hE (e290 hE) rfl rfl ⟨(Nat.le_of_ble_eq_true rfl), (Nat.le_of_ble_eq_true rfl)⟩) [7, 8] rfl (by decide) rfl hl.1 rfl (lv_room (Nat.le_of_ble_eq_true rfl)) dX9_count_4 ⟨(Nat.le_of_ble_eq_true rfl), (Nat.le_of_ble_eq_true rfl)⟩) hP hD hS hA [7, 8] [0, 1, 2, 3, 4, 5, 6, 9] rfl rfl (by decide) (by decide) (fun u1 H locs hP hD hS => ?_)
  have hP : va_P g.1 vwCl [(q32, .inl (g.2 0, 300, .inl f46)), (q33, .inl (g.2 0, 8, .inl f46)), (q45, .inl (g.2 1, 300, .inr (.inl f43))), (q35, .inr (3, [.ref q45])), (q34, .inl (g.2 1, 300, .inr (.inl f43))), (q20, .inr (8, [w36, w37, w38, w39, .int 0, w41, w42])), (q21, .inr (7, [w22, .ref q32, w24, .ref q33, .ref q34, .ref q35, w28, w29, w30, w31])), (q1, .inr (11, [.ref q13, w3, .ref q21, w5, w6, w7, w8, w9, .int 0, w11, w12])), (q17, .inl (g.2 3, 10, .inr (.inr (.inr (.inr f18))))), (q13, .inr (10, [.ref q17, .int 0, w16]))] H := hP
  have hD : va_D A [(q32, .inl (g.2 0, 300, .inl f46)), (q33, .inl (g.2 0, 8, .inl f46)), (q45, .inl (g.2 1, 300, .inr (.inl f43))), (q35, .inr (3, [.ref q45])), (q34, .inl (g.2 1, 300, .inr (.inl f43))), (q20, .inr (8, [w36, w37, w38, w39, .int 0, w41, w42])), (q21, .inr (7, [w22, .ref q32, w24, .ref q33, .ref q34, .ref q35, w28, w29, w30, w31])), (q1, .inr (11, [.ref q13, w3, .ref q21, w5, w6, w7, w8, w9, .int 0, w11, w12])), (q17, .inl (g.2 3, 10, .inr (.inr (.inr (.inr f18))))), (q13, .inr (10, [.ref q17, .int 0, w16]))] := hD
  refine lv_astore_n (lv' := [(2, .ref q20), (0, .ref q1), (1, .int 8)]) hx hb dX9_count_7 rfl hl (by decide) rfl (fun ls hl => ?_)
  refine lv_iload_n hx hb dX9_count_8 rfl (lv_at hl 2 rfl) ?_
  refine lv_tableIn (tgt := 115) hx hb dX9_count_9 (by decide) (by decide) rfl (by decide) ?_
  refine lv_aload_n hx hb dX9_count_115 rfl (lv_at hl 1 rfl) ?_
  refine g_r (wr := []) (rV (rest := []) hx hb hml hown hE hP hD 7 rfl rfl (c1638_X9_upToDateScore l g q1 q13 q17 q20 q21 q35 q34 q45 q33 q32 w3 w5 w6 w7 w8 w9 w11 w12 w16 w22 w24 w28 w29 w30 w31 w36 w37 w38 w39 w41 w42 f18 f43 f46 (hf19) H.size) (kV_X9_upToDateScore hE (e318 hE) rfl rfl ⟨(Nat.le_of_ble_eq_true rfl), (Nat.le_of_ble_eq_true rfl)⟩) [0, 1, 2, 3, 4, 5, 6, 8, 9, 7] rfl (by decide) rfl hl.1 rfl (lv_room (Nat.le_of_ble_eq_true rfl)) dX9_count_116 ⟨(Nat.le_of_ble_eq_true rfl), (Nat.le_of_ble_eq_true rfl)⟩) hP hD hS hA [0, 1, 2, 3, 4, 5, 6, 8, 9, 7] [] rfl rfl (by decide) (by decide) (fun u2 H locs hP hD hS => ?_)
  have hP : va_P g.1 vwCl [(q1, .inr (11, [.ref q13, w3, .ref q21, w5, w6, w7, w8, w9, .int 1, w11, w12])), (q17, .inl (g.2 3, 10, .inr (.inr (.inr (.inr f18))))), (q13, .inr (10, [.ref q17, .int 0, w16])), (q20, .inr (8, [w36, w37, w38, w39, .int 0, w41, w42])), (q21, .inr (7, [w22, .ref q32, w24, .ref q33, .ref q34, .ref q35, .int 0, .int 0, .int 0, .int 0])), (q33, .inl (g.2 0, 8, .inl (fillF 8 (-1) f46))), (q32, .inl (g.2 0, 300, .inl (fillF 300 (-1) f46))), (q45, .inl (g.2 1, 300, .inr (.inl f43))), (q35, .inr (3, [.ref q45])), (q34, .inl (g.2 1, 300, .inr (.inl f43)))] H := hP
  have hD : va_D A [(q1, .inr (11, [.ref q13, w3, .ref q21, w5, w6, w7, w8, w9, .int 1, w11, w12])), (q17, .inl (g.2 3, 10, .inr (.inr (.inr (.inr f18))))), (q13, .inr (10, [.ref q17, .int 0, w16])), (q20, .inr (8, [w36, w37, w38, w39, .int 0, w41, w42])), (q21, .inr (7, [w22, .ref q32, w24, .ref q33, .ref q34, .ref q35, .int 0, .int 0, .int 0, .int 0])), (q33, .inl (g.2 0, 8, .inl (fillF 8 (-1) f46))), (q32, .inl (g.2 0, 300, .inl (fillF 300 (-1) f46))), (q45, .inl (g.2 1, 300, .inr (.inl f43))), (q35, .inr (3, [.ref q45])), (q34, .inl (g.2 1, 300, .inr (.inl f43)))] := hD
  refine g_i (wr := [(q1, .inr (11, [.ref q13, w3, .ref q21, w5, w6, w7, w8, w9, .int 1, w11, w12])), (q17, .inl (g.2 3, 10, .inr (.inr (.inr (.inr f18))))), (q13, .inr (10, [.ref q17, .int 0, w16])), (q20, .inr (8, [w36, w37, w38, w39, .int 0, w41, w42])), (q33, .inl (g.2 0, 8, .inl (fillF 8 (-1) f46))), (q32, .inl (g.2 0, 300, .inl (fillF 300 (-1) f46))), (q45, .inl (g.2 1, 300, .inr (.inl f43))), (q35, .inr (3, [.ref q45])), (q34, .inl (g.2 1, 300, .inr (.inl f43)))]) (rV (rest := []) hx hb hml hown hE hP hD 4 rfl rfl (c1671_X5_greatestEnd l g q21 w22 (.ref q32) w24 (.ref q33) (.ref q34) (.ref q35) (.int 0) (.int 0) (.int 0) H.size) (kV_X5_greatestEnd hE (e869 hE) rfl rfl ⟨(Nat.le_of_ble_eq_true rfl), (Nat.le_of_ble_eq_true rfl)⟩) [4] rfl (by decide) rfl hl.1 rfl (lv_room (Nat.le_of_ble_eq_true rfl)) dX9_count_119 ⟨(Nat.le_of_ble_eq_true rfl), (Nat.le_of_ble_eq_true rfl)⟩) hP hD hS hA [4] [0, 1, 2, 3, 5, 6, 7, 8, 9] rfl rfl (by decide) (by decide) (fun u3 H locs hP hD hS => ?_)
  have hP : va_P g.1 vwCl [(q1, .inr (11, [.ref q13, w3, .ref q21, w5, w6, w7, w8, w9, .int 1, w11, w12])), (q17, .inl (g.2 3, 10, .inr (.inr (.inr (.inr f18))))), (q13, .inr (10, [.ref q17, .int 0, w16])), (q20, .inr (8, [w36, w37, w38, w39, .int 0, w41, w42])), (q33, .inl (g.2 0, 8, .inl (fillF 8 (-1) f46))), (q32, .inl (g.2 0, 300, .inl (fillF 300 (-1) f46))), (q45, .inl (g.2 1, 300, .inr (.inl f43))), (q35, .inr (3, [.ref q45])), (q34, .inl (g.2 1, 300, .inr (.inl f43))), (q21, .inr (7, [w22, .ref q32, w24, .ref q33, .ref q34, .ref q35, .int 0, .int 0, .int 0, .int 0]))] H := hP
  have hD : va_D A [(q1, .inr (11, [.ref q13, w3, .ref q21, w5, w6, w7, w8, w9, .int 1, w11, w12])), (q17, .inl (g.2 3, 10, .inr (.inr (.inr (.inr f18))))), (q13, .inr (10, [.ref q17, .int 0, w16])), (q20, .inr (8, [w36, w37, w38, w39, .int 0, w41, w42])), (q33, .inl (g.2 0, 8, .inl (fillF 8 (-1) f46))), (q32, .inl (g.2 0, 300, .inl (fillF 300 (-1) f46))), (q45, .inl (g.2 1, 300, .inr (.inl f43))), (q35, .inr (3, [.ref q45])), (q34, .inl (g.2 1, 300, .inr (.inl f43))), (q21, .inr (7, [w22, .ref q32, w24, .ref q33, .ref q34, .ref q35, .int 0, .int 0, .int 0, .int 0]))] := hD
  exact x_zret hx hb hr rfl rfl hlocks hP hD hS hAe hsz (Nat.le_of_ble_eq_true rfl) (Nat.le_of_ble_eq_true rfl) (fun _ => 0) [0, 1, 2, 3, 4, 5, 6, 7, 8, 9] (by decide) rfl dX9_count_122

set_option maxHeartbeats 4000000 in
set_option maxRecDepth 100000 in
theorem c1673_L_count (l : Launch) (g : gG) (hlx : l.stackTraces = false) (q1 q2 q14 q18 q21 q22 q33 q34 q35 q36 q46 : Nat) (w4 w6 w7 w8 w9 w10 w12 w13 w17 w23 w25 w29 w30 w31 w32 w37 w38 w39 w40 w42 w43 : Value) (f19 : Nat → Option Nat) (f44 : Nat → Int64) (f47 : Nat → Int32) (hf20 : f19 0 = some q21) (sz : Nat) : Met l yL_count [Cond.codeWith yL_count cL_count 4 (some .int) [(0, 9, 12, 15)]] ({ frames := 5, cells := 0, slots := 0, locals := 116 } : Room) (va_Pc [.ref q1, .int 8, .ref q2] (PZ g sz [(q2, .inl (g.2 1, 1, .inr (.inl f44))), (q33, .inl (g.2 0, 300, .inl f47)), (q34, .inl (g.2 0, 8, .inl f47)), (q46, .inl (g.2 1, 300, .inr (.inl f44))), (q36, .inr (3, [.ref q46])), (q35, .inl (g.2 1, 300, .inr (.inl f44))), (q21, .inr (8, [w37, w38, w39, w40, .int 0, w42, w43])), (q22, .inr (7, [w23, .ref q33, w25, .ref q34, .ref q35, .ref q36, w29, w30, w31, w32])), (q18, .inl (g.2 3, 10, .inr (.inr (.inr (.inr f19))))), (q14, .inr (10, [.ref q18, .int 0, w17])), (q1, .inr (11, [.ref q14, w4, .ref q22, w6, w7, w8, w9, w10, .int 0, w12, w13]))])) (QI g [(q2, .inl (g.2 1, 1, .inr (.inl f44))), (q33, .inl (g.2 0, 300, .inl f47)), (q34, .inl (g.2 0, 8, .inl f47)), (q46, .inl (g.2 1, 300, .inr (.inl f44))), (q36, .inr (3, [.ref q46])), (q35, .inl (g.2 1, 300, .inr (.inl f44))), (q21, .inr (8, [w37, w38, w39, w40, .int 0, w42, w43])), (q22, .inr (7, [w23, .ref q33, w25, .ref q34, .ref q35, .ref q36, w29, w30, w31, w32])), (q18, .inl (g.2 3, 10, .inr (.inr (.inr (.inr f19))))), (q14, .inr (10, [.ref q18, .int 0, w17])), (q1, .inr (11, [.ref q14, w4, .ref q22, w6, w7, w8, w9, w10, .int 0, w12, w13]))] sz 0 (fun _ => [(q2, .inl (g.2 1, 1, .inr (.inl (vp_updL f44 0 0))))])) 0 0 (va_A [(q2, .inl (g.2 1, 1, .inr (.inl f44))), (q33, .inl (g.2 0, 300, .inl f47)), (q34, .inl (g.2 0, 8, .inl f47)), (q46, .inl (g.2 1, 300, .inr (.inl f44))), (q36, .inr (3, [.ref q46])), (q35, .inl (g.2 1, 300, .inr (.inl f44))), (q21, .inr (8, [w37, w38, w39, w40, .int 0, w42, w43])), (q22, .inr (7, [w23, .ref q33, w25, .ref q34, .ref q35, .ref q36, w29, w30, w31, w32])), (q18, .inl (g.2 3, 10, .inr (.inr (.inr (.inr f19))))), (q14, .inr (10, [.ref q18, .int 0, w17])), (q1, .inr (11, [.ref q14, w4, .ref q22, w6, w7, w8, w9, w10, .int 0, w12, w13]))] sz) := by
  refine ofH (by decide) (Nat.le_of_ble_eq_true rfl) rfl ?_
  intro p e s m args below meth c A ls hAe hsz hx hb hml hr hlocks hin hown hE hP hD hA hS hl htb hz
  have hown : s.vm.findClass RL = some m.cls := hown
  refine lv_aload_n hx hb dL_count_0 rfl (lv_at hl 2 rfl) ?_
  refine lv_iconst (v := 0) hx hb dL_count_1 (by decide) ?_
  refine lv_aload_n hx hb dL_count_2 rfl (lv_at hl 0 rfl) ?_
  refine lv_iload_n hx hb dL_count_3 rfl (lv_at hl 1 rfl) ?_
  refine g_i (wr := [(q2, .inl (g.2 1, 1, .inr (.inl f44)))]) (rV (rest := [.int 0, .ref q2]) hx hb hml hown hE hP hD 10 rfl rfl (c1672_X9_count l g q1 q14 q18 q21 q22 q33 q34 q35 q36 q46 w4 w6 w7 w8 w9 w10 w12 w13 w17 w23 w25 w29 w30 w31 w32 w37 w38 w39 w40 w42 w43 f19 f44 f47 (hf20) s.heap.size) (kV_X9_count hE (e852 hE) rfl rfl ⟨(Nat.le_of_ble_eq_true rfl), (Nat.le_of_ble_eq_true rfl)⟩) [1, 2, 3, 4, 5, 6, 7, 8, 9, 10] rfl (by decide) rfl hl.1 rfl (lv_room (Nat.le_of_ble_eq_true rfl)) dL_count_4 ⟨(Nat.le_of_ble_eq_true rfl), (Nat.le_of_ble_eq_true rfl)⟩) hP hD hS hA [1, 2, 3, 4, 5, 6, 7, 8, 9, 10] [0] rfl rfl (by decide) (by decide) (fun u1 H locs hP hD hS => ?_)
  have hP : va_P g.1 vwCl [(q2, .inl (g.2 1, 1, .inr (.inl f44))), (q1, .inr (11, [.ref q14, w4, .ref q22, w6, w7, w8, w9, w10, .int 1, w12, w13])), (q18, .inl (g.2 3, 10, .inr (.inr (.inr (.inr f19))))), (q14, .inr (10, [.ref q18, .int 0, w17])), (q21, .inr (8, [w37, w38, w39, w40, .int 0, w42, w43])), (q34, .inl (g.2 0, 8, .inl (fillF 8 (-1) f47))), (q33, .inl (g.2 0, 300, .inl (fillF 300 (-1) f47))), (q46, .inl (g.2 1, 300, .inr (.inl f44))), (q36, .inr (3, [.ref q46])), (q35, .inl (g.2 1, 300, .inr (.inl f44))), (q22, .inr (7, [w23, .ref q33, w25, .ref q34, .ref q35, .ref q36, .int 0, .int 0, .int 0, .int 0]))] H := hP
  have hD : va_D A [(q2, .inl (g.2 1, 1, .inr (.inl f44))), (q1, .inr (11, [.ref q14, w4, .ref q22, w6, w7, w8, w9, w10, .int 1, w12, w13])), (q18, .inl (g.2 3, 10, .inr (.inr (.inr (.inr f19))))), (q14, .inr (10, [.ref q18, .int 0, w17])), (q21, .inr (8, [w37, w38, w39, w40, .int 0, w42, w43])), (q34, .inl (g.2 0, 8, .inl (fillF 8 (-1) f47))), (q33, .inl (g.2 0, 300, .inl (fillF 300 (-1) f47))), (q46, .inl (g.2 1, 300, .inr (.inl f44))), (q36, .inr (3, [.ref q46])), (q35, .inl (g.2 1, 300, .inr (.inl f44))), (q22, .inr (7, [w23, .ref q33, w25, .ref q34, .ref q35, .ref q36, .int 0, .int 0, .int 0, .int 0]))] := hD
  refine lv_i2l (v := 0) hx hb dL_count_7 (by decide) ?_
  refine x_last (ws' := [(q2, .inl (g.2 1, 1, .inr (.inl (vp_updL f44 0 0)))), (q1, .inr (11, [.ref q14, w4, .ref q22, w6, w7, w8, w9, w10, .int 1, w12, w13])), (q18, .inl (g.2 3, 10, .inr (.inr (.inr (.inr f19))))), (q14, .inr (10, [.ref q18, .int 0, w17])), (q21, .inr (8, [w37, w38, w39, w40, .int 0, w42, w43])), (q34, .inl (g.2 0, 8, .inl (fillF 8 (-1) f47))), (q33, .inl (g.2 0, 300, .inl (fillF 300 (-1) f47))), (q46, .inl (g.2 1, 300, .inr (.inl f44))), (q36, .inr (3, [.ref q46])), (q35, .inl (g.2 1, 300, .inr (.inl f44))), (q22, .inr (7, [w23, .ref q33, w25, .ref q34, .ref q35, .ref q36, .int 0, .int 0, .int 0, .int 0]))]) hx hb hE hP hD hS 0 rfl 0 (x_in (by decide)) (by decide) dL_count_8 rfl (fun H locs hP hD hS => ?_)
  refine lv_goto (tgt := 15) hx hb dL_count_9 (by decide) ?_
  refine lv_iconst (v := 0) hx hb dL_count_15 (by decide) ?_
  exact x_zret hx hb hr rfl rfl hlocks hP hD hS hAe hsz (Nat.le_of_ble_eq_true rfl) (Nat.le_of_ble_eq_true rfl) (fun _ => 0) [0] (by decide) rfl dL_count_16

set_option maxHeartbeats 4000000 in
set_option maxRecDepth 100000 in
theorem c1674_X10_in (l : Launch) (g : gG) (sz : Nat) : Met l yX10_in [Cond.code yX10_in cX10_in 3 (some .boolean)] ({ frames := 0, cells := 0, slots := 0, locals := 0 } : Room) (va_Pc [.int 8, .int 0, .int 8] (PX g sz [])) (QI g [] sz 1 (fun _ => [])) 0 0 (va_A [] sz) := by
  refine ofN (by decide) (Nat.le_of_ble_eq_true rfl) rfl ?_
  intro p e s m args below meth c A ls hAe hsz hx hb hml hr hlocks hin hown hE hP hD hA hS hl
  have hown : s.vm.findClass RX10 = some m.cls := hown
  refine lv_iload_n hx hb dX10_in_0 rfl (lv_at hl 0 rfl) ?_
  refine lv_iload_n hx hb dX10_in_1 rfl (lv_at hl 1 rfl) ?_
  refine lv_icmp_lt (tgt := 14) hx hb dX10_in_2 (by decide) (fun h => absurd h (by decide)) (fun _ => ?_)
  refine lv_iload_n hx hb dX10_in_5 rfl (lv_at hl 0 rfl) ?_
  refine lv_iload_n hx hb dX10_in_6 rfl (lv_at hl 2 rfl) ?_
  refine lv_icmp_gt (tgt := 14) hx hb dX10_in_7 (by decide) (fun h => absurd h (by decide)) (fun _ => ?_)
  refine lv_iconst (v := 1) hx hb dX10_in_10 (by decide) ?_
  refine lv_goto (tgt := 15) hx hb dX10_in_11 (by decide) ?_
  exact x_zret hx hb hr rfl rfl hlocks hP hD hS hAe hsz (Nat.le_of_ble_eq_true rfl) (Nat.le_of_ble_eq_true rfl) (fun _ => 0) [] (by decide) rfl dX10_in_15

set_option maxHeartbeats 4000000 in
set_option maxRecDepth 100000 in
theorem c1675_X10_count (l : Launch) (g : gG) (q1 q39 q40 q41 q42 : Nat) (w3 w4 w5 w6 w7 w8 w11 w12 w13 w14 w15 w16 w17 w18 w19 w20 w21 w22 w23 w24 w25 w26 w28 w29 w30 w31 w32 w33 w34 w35 w36 w37 w38 : Value) (f43 : Nat → Int32) (f53 : Nat → Int32) (hf44 : f43 0 = 0) (hf45 : f43 49 = 0) (hf46 : f43 98 = 0) (hf47 : f43 147 = 0) (hf48 : f43 196 = 0) (hf49 : f43 245 = 0) (hf50 : f43 294 = 0) (hf51 : f43 343 = 0) (hf52 : f43 392 = 0) (hf54 : f53 0 = 0) (hf55 : f53 1 = 0) (hf56 : f53 2 = 0) (hf57 : f53 3 = 0) (hf58 : f53 4 = 0) (hf59 : f53 5 = 0) (hf60 : f53 6 = 0) (hf61 : f53 7 = 0) (sz : Nat) : Met l yX10_count [Cond.code yX10_count cX10_count 6 (some .int)] ({ frames := 4, cells := 0, slots := 0, locals := 89 } : Room) (va_Pc [.ref q1, .int 8] (PX g sz [(q42, .inl (g.2 0, 8, .inl f53)), (q41, .inl (g.2 0, 8, .inl f53)), (q40, .inl (g.2 0, 8, .inl f53)), (q39, .inl (g.2 0, 497, .inl f43)), (q1, .inr (12, [.ref q39, w3, w4, w5, w6, w7, w8, .ref q40, .ref q41, w11, w12, w13, w14, w15, w16, w17, w18, w19, w20, w21, w22, w23, w24, w25, w26, .ref q42, w28, w29, w30, w31, w32, w33, w34, w35, w36, w37, w38]))])) (QI g [(q42, .inl (g.2 0, 8, .inl f53)), (q41, .inl (g.2 0, 8, .inl f53)), (q40, .inl (g.2 0, 8, .inl f53)), (q39, .inl (g.2 0, 497, .inl f43)), (q1, .inr (12, [.ref q39, w3, w4, w5, w6, w7, w8, .ref q40, .ref q41, w11, w12, w13, w14, w15, w16, w17, w18, w19, w20, w21, w22, w23, w24, w25, w26, .ref q42, w28, w29, w30, w31, w32, w33, w34, w35, w36, w37, w38]))] sz 0 (fun _ => [(q1, .inr (12, [.ref q39, w3, w4, w5, w6, w7, .int 0, .ref q40, .ref q41, w11, w12, w13, w14, w15, .int 0, w17, w18, w19, w20, w21, w22, w23, w24, w25, w26, .ref q42, w28, w29, w30, w31, w32, w33, w34, w35, w36, w37, w38]))])) 0 0 (va_A [(q42, .inl (g.2 0, 8, .inl f53)), (q41, .inl (g.2 0, 8, .inl f53)), (q40, .inl (g.2 0, 8, .inl f53)), (q39, .inl (g.2 0, 497, .inl f43)), (q1, .inr (12, [.ref q39, w3, w4, w5, w6, w7, w8, .ref q40, .ref q41, w11, w12, w13, w14, w15, w16, w17, w18, w19, w20, w21, w22, w23, w24, w25, w26, .ref q42, w28, w29, w30, w31, w32, w33, w34, w35, w36, w37, w38]))] sz) := by
  refine ofN (by decide) (Nat.le_of_ble_eq_true rfl) rfl ?_
  intro p e s m args below meth c A ls hAe hsz hx hb hml hr hlocks hin hown hE hP hD hA hS hl
  have hown : s.vm.findClass RX10 = some m.cls := hown
  refine lv_aload_n hx hb dX10_count_0 rfl (lv_at hl 0 rfl) ?_
  refine lv_iconst (v := 0) hx hb dX10_count_1 (by decide) ?_
  refine pf_RX10_86 (ws' := [(q42, .inl (g.2 0, 8, .inl f53)), (q41, .inl (g.2 0, 8, .inl f53)), (q40, .inl (g.2 0, 8, .inl f53)), (q39, .inl (g.2 0, 497, .inl f43)), (q1, .inr (12, [.ref q39, w3, w4, w5, w6, w7, .int 0, .ref q40, .ref q41, w11, w12, w13, w14, w15, w16, w17, w18, w19, w20, w21, w22, w23, w24, w25, w26, .ref q42, w28, w29, w30, w31, w32, w33, w34, w35, w36, w37, w38]))]) hx hb hown hE hP hD hS 4 rfl rfl rfl (Nat.le_of_ble_eq_true rfl) dX10_count_2 rfl (fun H locs hP hD hS => ?_)
  refine lv_iload_n hx hb dX10_count_5 rfl (lv_at hl 1 rfl) ?_
  refine lv_iconst (v := 0) hx hb dX10_count_6 (by decide) ?_
  refine lv_bipush (v := 8) hx hb dX10_count_7 (by decide) ?_
  refine g0_i (rS (rest := []) hx hb hml hown hE hP hD (c1674_X10_in l g H.size) (kS_X10_in hE (e1431 hE) rfl rfl ⟨(Nat.le_of_ble_eq_true rfl), (Nat.le_of_ble_eq_true rfl)⟩) [] rfl (by decide) rfl hl.1 rfl (lv_room (Nat.le_of_ble_eq_true rfl)) dX10_count_9 ⟨(Nat.le_of_ble_eq_true rfl), (Nat.le_of_ble_eq_true rfl)⟩) hP hD hS hA (fun u9 H locs hP hS => ?_)
  refine lv_if_ne (tgt := 21) hx hb dX10_count_12 (by decide) (fun _ => ?_) (fun h => absurd h (by decide))
  refine lv_aload_n hx hb dX10_count_21 rfl (lv_at hl 0 rfl) ?_
  refine g_v (wr := []) (rV (rest := []) hx hb hml hown hE hP hD 4 rfl rfl (c1632_X10_layNotes l g q1 q39 q40 q41 q42 w3 w4 w5 w6 w7 (.int 0) w11 w12 w13 w14 w15 w16 w17 w18 w19 w20 w21 w22 w23 w24 w25 w26 w28 w29 w30 w31 w32 w33 w34 w35 w36 w37 w38 f43 f53 (hf44) (hf45) (hf46) (hf47) (hf48) (hf49) (hf50) (hf51) (hf54) (hf55) (hf56) (hf57) (hf58) (hf59) (hf60) (hf61) (hf52) H.size) (kV_X10_layNotes hE (e1543 hE) rfl rfl ⟨(Nat.le_of_ble_eq_true rfl), (Nat.le_of_ble_eq_true rfl)⟩) [0, 1, 2, 3, 4] rfl (by decide) rfl hl.1 rfl (lv_room (Nat.le_of_ble_eq_true rfl)) dX10_count_22 ⟨(Nat.le_of_ble_eq_true rfl), (Nat.le_of_ble_eq_true rfl)⟩) hP hD hS hA [0, 1, 2, 3, 4] [] rfl rfl (by decide) (by decide) (fun u2 H locs hP hD hS => ?_)
  have hP : va_P g.1 vwCl [(q41, .inl (g.2 0, 8, .inl f53)), (q40, .inl (g.2 0, 8, .inl f53)), (q39, .inl (g.2 0, 497, .inl f43)), (q42, .inl (g.2 0, 8, .inl (upd (upd (upd (upd (upd (upd (upd (upd f53 0 (-1)) 1 (-1)) 2 (-1)) 3 (-1)) 4 (-1)) 5 (-1)) 6 (-1)) 7 (-1)))), (q1, .inr (12, [.ref q39, w3, w4, w5, w6, w7, .int 0, .ref q40, .ref q41, w11, w12, w13, w14, w15, .int 0, w17, w18, w19, w20, w21, w22, w23, w24, w25, w26, .ref q42, w28, w29, w30, w31, w32, w33, w34, w35, w36, w37, w38]))] H := hP
  have hD : va_D A [(q41, .inl (g.2 0, 8, .inl f53)), (q40, .inl (g.2 0, 8, .inl f53)), (q39, .inl (g.2 0, 497, .inl f43)), (q42, .inl (g.2 0, 8, .inl (upd (upd (upd (upd (upd (upd (upd (upd f53 0 (-1)) 1 (-1)) 2 (-1)) 3 (-1)) 4 (-1)) 5 (-1)) 6 (-1)) 7 (-1)))), (q1, .inr (12, [.ref q39, w3, w4, w5, w6, w7, .int 0, .ref q40, .ref q41, w11, w12, w13, w14, w15, .int 0, w17, w18, w19, w20, w21, w22, w23, w24, w25, w26, .ref q42, w28, w29, w30, w31, w32, w33, w34, w35, w36, w37, w38]))] := hD
  refine lv_iconst (v := 0) hx hb dX10_count_25 (by decide) ?_
  refine lv_istore_n (lv' := [(2, .int 0), (0, .ref q1), (1, .int 8)]) hx hb dX10_count_26 rfl hl (by decide) rfl (fun ls hl => ?_)
  refine lv_iconst (v := 0) hx hb dX10_count_27 (by decide) ?_
  refine lv_istore_n (lv' := [(3, .int 0), (2, .int 0), (0, .ref q1), (1, .int 8)]) hx hb dX10_count_28 rfl hl (by decide) rfl (fun ls hl => ?_)
  refine lv_iconst (v := 0) hx hb dX10_count_29 (by decide) ?_
  refine lv_istore (lv' := [(4, .int 0), (3, .int 0), (2, .int 0), (0, .ref q1), (1, .int 8)]) hx hb dX10_count_30 hl (by decide) rfl (fun ls hl => ?_)
  refine lv_iconst (v := 0) hx hb dX10_count_32 (by decide) ?_
  refine lv_istore (lv' := [(5, .int 0), (4, .int 0), (3, .int 0), (2, .int 0), (0, .ref q1), (1, .int 8)]) hx hb dX10_count_33 hl (by decide) rfl (fun ls hl => ?_)
  refine lv_iload hx hb dX10_count_35 (lv_at hl 0 rfl) ?_
  refine lv_aload_n hx hb dX10_count_37 rfl (lv_at hl 4 rfl) ?_
  refine gf_RX10_176 hx hb hown hE hP 4 rfl rfl dX10_count_38 ?_
  refine lv_icmp_ge (tgt := 100) hx hb dX10_count_41 (by decide) (fun _ => ?_) (fun h => absurd (by decide) h)
  refine lv_iload_n hx hb dX10_count_100 rfl (lv_at hl 5 rfl) ?_
  refine lv_tableOut (tgt := 202) hx hb dX10_count_101 (Or.inr (by decide)) (by decide) ?_
  refine lv_iload hx hb dX10_count_202 (lv_at hl 1 rfl) ?_
  exact x_zret hx hb hr rfl rfl hlocks hP hD hS hAe hsz (Nat.le_of_ble_eq_true rfl) (Nat.le_of_ble_eq_true rfl) (fun _ => 0) [4] (by decide) rfl dX10_count_204

set_option maxHeartbeats 4000000 in
set_option maxRecDepth 100000 in
theorem c1676_X9_note (l : Launch) (g : gG) (hlx : l.stackTraces = false) (q1 q15 q16 q20 q23 q34 q35 q36 q37 q47 : Nat) (x2 x3 : Int32) (w5 w7 w8 w9 w10 w11 w13 w14 w19 w24 w26 w30 w31 w32 w33 w38 w39 w40 w41 w43 w44 : Value) (f21 : Nat → Option Nat) (f45 : Nat → Int64) (f48 : Nat → Int32) (hf22 : f21 0 = some q23) (h49 : x2 < 0) (sz : Nat) : vx_Met l yX9_note [Cond.code yX9_note cX9_note 4 (some .int)] ({ frames := 7, cells := 1, slots := 6, locals := 121 } : Room) (va_Pc [.ref q1, .int x2, .int x3] (PZ g sz [(q34, .inl (g.2 0, 300, .inl f48)), (q35, .inl (g.2 0, 8, .inl f48)), (q47, .inl (g.2 1, 300, .inr (.inl f45))), (q37, .inr (3, [.ref q47])), (q36, .inl (g.2 1, 300, .inr (.inl f45))), (q23, .inr (8, [w38, w39, w40, w41, .int 0, w43, w44])), (q16, .inr (7, [w24, .ref q34, w26, .ref q35, .ref q36, .ref q37, w30, w31, w32, w33])), (q20, .inl (g.2 3, 10, .inr (.inr (.inr (.inr f21))))), (q15, .inr (10, [.ref q20, .int 0, w19])), (q1, .inr (11, [.ref q15, w5, .ref q16, w7, w8, w9, w10, w11, .int 0, w13, w14]))])) NI (XW g [(q34, .inl (g.2 0, 300, .inl f48)), (q35, .inl (g.2 0, 8, .inl f48)), (q47, .inl (g.2 1, 300, .inr (.inl f45))), (q37, .inr (3, [.ref q47])), (q36, .inl (g.2 1, 300, .inr (.inl f45))), (q23, .inr (8, [w38, w39, w40, w41, .int 0, w43, w44])), (q16, .inr (7, [w24, .ref q34, w26, .ref q35, .ref q36, .ref q37, w30, w31, w32, w33])), (q20, .inl (g.2 3, 10, .inr (.inr (.inr (.inr f21))))), (q15, .inr (10, [.ref q20, .int 0, w19])), (q1, .inr (11, [.ref q15, w5, .ref q16, w7, w8, w9, w10, w11, .int 0, w13, w14]))] sz "java/lang/IndexOutOfBoundsException" [(q1, .inr (11, [.ref q15, w5, .ref q16, w7, w8, w9, w10, w11, .int 1, w13, w14])), (q20, .inl (g.2 3, 10, .inr (.inr (.inr (.inr f21))))), (q15, .inr (10, [.ref q20, .int 0, w19])), (q23, .inr (8, [w38, w39, w40, w41, .int 0, w43, w44])), (q35, .inl (g.2 0, 8, .inl (fillF 8 (-1) f48))), (q34, .inl (g.2 0, 300, .inl (fillF 300 (-1) f48))), (q47, .inl (g.2 1, 300, .inr (.inl f45))), (q37, .inr (3, [.ref q47])), (q36, .inl (g.2 1, 300, .inr (.inl f45))), (q16, .inr (7, [w24, .ref q34, w26, .ref q35, .ref q36, .ref q37, .int 0, .int 0, .int 0, .int 0]))]) 1 6 (va_A [(q34, .inl (g.2 0, 300, .inl f48)), (q35, .inl (g.2 0, 8, .inl f48)), (q47, .inl (g.2 1, 300, .inr (.inl f45))), (q37, .inr (3, [.ref q47])), (q36, .inl (g.2 1, 300, .inr (.inl f45))), (q23, .inr (8, [w38, w39, w40, w41, .int 0, w43, w44])), (q16, .inr (7, [w24, .ref q34, w26, .ref q35, .ref q36, .ref q37, w30, w31, w32, w33])), (q20, .inl (g.2 3, 10, .inr (.inr (.inr (.inr f21))))), (q15, .inr (10, [.ref q20, .int 0, w19])), (q1, .inr (11, [.ref q15, w5, .ref q16, w7, w8, w9, w10, w11, .int 0, w13, w14]))] sz) := by
  refine ofX (by decide) (Nat.le_of_ble_eq_true rfl) rfl ?_
  intro p e s m args below meth c A ls hAe hsz hx hb hml hr hlocks hin hown hE hP hD hA hS hl hex hz
  have hown : s.vm.findClass RX9 = some m.cls := hown
  refine lv_aload_n hx hb dX9_note_0 rfl (lv_at hl 0 rfl) ?_
  refine g_r (wr := []) (rV (rest := []) hx hb hml hown hE hP hD 9 rfl rfl (c1638_X9_upToDateScore l g q1 q15 q20 q23 q16 q37 q36 q47 q35 q34 w5 w7 w8 w9 w10 w11 w13 w14 w19 w24 w26 w30 w31 w32 w33 w38 w39 w40 w41 w43 w44 f21 f45 f48 (hf22) s.heap.size) (kV_X9_upToDateScore hE (e318 hE) rfl rfl ⟨(Nat.le_of_ble_eq_true rfl), (Nat.le_of_ble_eq_true rfl)⟩) [0, 1, 2, 3, 4, 5, 6, 7, 8, 9] rfl (by decide) rfl hl.1 rfl (lv_room (Nat.le_of_ble_eq_true rfl)) dX9_note_1 ⟨(Nat.le_of_ble_eq_true rfl), (Nat.le_of_ble_eq_true rfl)⟩) hP hD hS hA [0, 1, 2, 3, 4, 5, 6, 7, 8, 9] [] rfl rfl (by decide) (by decide) (fun u1 H locs hP hD hS => ?_)
  have hP : va_P g.1 vwCl [(q1, .inr (11, [.ref q15, w5, .ref q16, w7, w8, w9, w10, w11, .int 1, w13, w14])), (q20, .inl (g.2 3, 10, .inr (.inr (.inr (.inr f21))))), (q15, .inr (10, [.ref q20, .int 0, w19])), (q23, .inr (8, [w38, w39, w40, w41, .int 0, w43, w44])), (q16, .inr (7, [w24, .ref q34, w26, .ref q35, .ref q36, .ref q37, .int 0, .int 0, .int 0, .int 0])), (q35, .inl (g.2 0, 8, .inl (fillF 8 (-1) f48))), (q34, .inl (g.2 0, 300, .inl (fillF 300 (-1) f48))), (q47, .inl (g.2 1, 300, .inr (.inl f45))), (q37, .inr (3, [.ref q47])), (q36, .inl (g.2 1, 300, .inr (.inl f45)))] H := hP
  have hD : va_D A [(q1, .inr (11, [.ref q15, w5, .ref q16, w7, w8, w9, w10, w11, .int 1, w13, w14])), (q20, .inl (g.2 3, 10, .inr (.inr (.inr (.inr f21))))), (q15, .inr (10, [.ref q20, .int 0, w19])), (q23, .inr (8, [w38, w39, w40, w41, .int 0, w43, w44])), (q16, .inr (7, [w24, .ref q34, w26, .ref q35, .ref q36, .ref q37, .int 0, .int 0, .int 0, .int 0])), (q35, .inl (g.2 0, 8, .inl (fillF 8 (-1) f48))), (q34, .inl (g.2 0, 300, .inl (fillF 300 (-1) f48))), (q47, .inl (g.2 1, 300, .inr (.inl f45))), (q37, .inr (3, [.ref q47])), (q36, .inl (g.2 1, 300, .inr (.inl f45)))] := hD
  refine lv_astore_n (lv' := [(3, .ref q16), (0, .ref q1), (1, .int x2), (2, .int x3)]) hx hb dX9_note_4 rfl hl (by decide) rfl (fun ls hl => ?_)
  refine lv_iload_n hx hb dX9_note_5 rfl (lv_at hl 2 rfl) ?_
  refine lv_aload_n hx hb dX9_note_6 rfl (lv_at hl 0 rfl) ?_
  refine g_i (wr := [(q1, .inr (11, [.ref q15, w5, .ref q16, w7, w8, w9, w10, w11, .int 1, w13, w14])), (q20, .inl (g.2 3, 10, .inr (.inr (.inr (.inr f21))))), (q15, .inr (10, [.ref q20, .int 0, w19])), (q23, .inr (8, [w38, w39, w40, w41, .int 0, w43, w44])), (q35, .inl (g.2 0, 8, .inl (fillF 8 (-1) f48))), (q34, .inl (g.2 0, 300, .inl (fillF 300 (-1) f48))), (q47, .inl (g.2 1, 300, .inr (.inl f45))), (q37, .inr (3, [.ref q47])), (q36, .inl (g.2 1, 300, .inr (.inl f45)))]) (rV (rest := [.int x2]) hx hb hml hown hE hP hD 4 rfl rfl (c1639_X5_noteCount l g q16 w24 (.ref q34) w26 (.ref q35) (.ref q36) (.ref q37) (.int 0) (.int 0) (.int 0) H.size) (kV_X5_noteCount hE (e856 hE) rfl rfl ⟨(Nat.le_of_ble_eq_true rfl), (Nat.le_of_ble_eq_true rfl)⟩) [4] rfl (by decide) rfl hl.1 rfl (lv_room (Nat.le_of_ble_eq_true rfl)) dX9_note_7 ⟨(Nat.le_of_ble_eq_true rfl), (Nat.le_of_ble_eq_true rfl)⟩) hP hD hS hA [4] [0, 1, 2, 3, 5, 6, 7, 8, 9] rfl rfl (by decide) (by decide) (fun u2 H locs hP hD hS => ?_)
  have hP : va_P g.1 vwCl [(q1, .inr (11, [.ref q15, w5, .ref q16, w7, w8, w9, w10, w11, .int 1, w13, w14])), (q20, .inl (g.2 3, 10, .inr (.inr (.inr (.inr f21))))), (q15, .inr (10, [.ref q20, .int 0, w19])), (q23, .inr (8, [w38, w39, w40, w41, .int 0, w43, w44])), (q35, .inl (g.2 0, 8, .inl (fillF 8 (-1) f48))), (q34, .inl (g.2 0, 300, .inl (fillF 300 (-1) f48))), (q47, .inl (g.2 1, 300, .inr (.inl f45))), (q37, .inr (3, [.ref q47])), (q36, .inl (g.2 1, 300, .inr (.inl f45))), (q16, .inr (7, [w24, .ref q34, w26, .ref q35, .ref q36, .ref q37, .int 0, .int 0, .int 0, .int 0]))] H := hP
  have hD : va_D A [(q1, .inr (11, [.ref q15, w5, .ref q16, w7, w8, w9, w10, w11, .int 1, w13, w14])), (q20, .inl (g.2 3, 10, .inr (.inr (.inr (.inr f21))))), (q15, .inr (10, [.ref q20, .int 0, w19])), (q23, .inr (8, [w38, w39, w40, w41, .int 0, w43, w44])), (q35, .inl (g.2 0, 8, .inl (fillF 8 (-1) f48))), (q34, .inl (g.2 0, 300, .inl (fillF 300 (-1) f48))), (q47, .inl (g.2 1, 300, .inr (.inl f45))), (q37, .inr (3, [.ref q47])), (q36, .inl (g.2 1, 300, .inr (.inl f45))), (q16, .inr (7, [w24, .ref q34, w26, .ref q35, .ref q36, .ref q37, .int 0, .int 0, .int 0, .int 0]))] := hD
  refine gx_v (wr := [(q1, .inr (11, [.ref q15, w5, .ref q16, w7, w8, w9, w10, w11, .int 1, w13, w14])), (q20, .inl (g.2 3, 10, .inr (.inr (.inr (.inr f21))))), (q15, .inr (10, [.ref q20, .int 0, w19])), (q23, .inr (8, [w38, w39, w40, w41, .int 0, w43, w44])), (q35, .inl (g.2 0, 8, .inl (fillF 8 (-1) f48))), (q34, .inl (g.2 0, 300, .inl (fillF 300 (-1) f48))), (q47, .inl (g.2 1, 300, .inr (.inl f45))), (q37, .inr (3, [.ref q47])), (q36, .inl (g.2 1, 300, .inr (.inl f45))), (q16, .inr (7, [w24, .ref q34, w26, .ref q35, .ref q36, .ref q37, .int 0, .int 0, .int 0, .int 0]))]) (rSx (rest := []) hx hb hml hown hE hP hD hS hA hz (c1164_X9_requireIndex l g hlx x2 h49 H.size) (kS_X9_requireIndex hE (e620 hE) rfl rfl ⟨(Nat.le_of_ble_eq_true rfl), (Nat.le_of_ble_eq_true rfl)⟩) [] rfl (by decide) rfl hl.1 rfl (lv_room (Nat.le_of_ble_eq_true rfl)) dX9_note_10 ⟨(Nat.le_of_ble_eq_true rfl), (Nat.le_of_ble_eq_true rfl)⟩) hP hD hS hA [] [0, 1, 2, 3, 4, 5, 6, 7, 8, 9] rfl rfl (by decide) (by decide) (fun ce9 q9 H locs hP hD hS hq1 hq2 hq3 => ?_)
  exact x_out hex hlocks hq1 hq2 hq3 hP hD hS hAe hsz (Nat.le_of_ble_eq_true rfl) (Nat.le_of_ble_eq_true rfl) [0, 1, 2, 3, 4, 5, 6, 7, 8, 9] (by decide) rfl

set_option maxHeartbeats 4000000 in
set_option maxRecDepth 100000 in
theorem c1677_L_note (l : Launch) (g : gG) (hlx : l.stackTraces = false) (q1 q4 q16 q17 q21 q24 q35 q36 q37 q38 q48 : Nat) (x2 x3 : Int32) (w6 w8 w9 w10 w11 w12 w14 w15 w20 w25 w27 w31 w32 w33 w34 w39 w40 w41 w42 w44 w45 : Value) (f22 : Nat → Option Nat) (f46 : Nat → Int64) (f49 : Nat → Int32) (hf23 : f22 0 = some q24) (h50 : x2 < 0) (sz : Nat) : Met l yL_note [Cond.codeWith yL_note cL_note 5 (some .int) [(0, 10, 13, 13), (0, 10, 17, 15)]] ({ frames := 8, cells := 1, slots := 6, locals := 144 } : Room) (va_Pc [.ref q1, .int x2, .int x3, .ref q4] (PZ g sz [(q35, .inl (g.2 0, 300, .inl f49)), (q36, .inl (g.2 0, 8, .inl f49)), (q48, .inl (g.2 1, 300, .inr (.inl f46))), (q38, .inr (3, [.ref q48])), (q37, .inl (g.2 1, 300, .inr (.inl f46))), (q24, .inr (8, [w39, w40, w41, w42, .int 0, w44, w45])), (q17, .inr (7, [w25, .ref q35, w27, .ref q36, .ref q37, .ref q38, w31, w32, w33, w34])), (q21, .inl (g.2 3, 10, .inr (.inr (.inr (.inr f22))))), (q16, .inr (10, [.ref q21, .int 0, w20])), (q1, .inr (11, [.ref q16, w6, .ref q17, w8, w9, w10, w11, w12, .int 0, w14, w15]))])) (QI g [(q35, .inl (g.2 0, 300, .inl f49)), (q36, .inl (g.2 0, 8, .inl f49)), (q48, .inl (g.2 1, 300, .inr (.inl f46))), (q38, .inr (3, [.ref q48])), (q37, .inl (g.2 1, 300, .inr (.inl f46))), (q24, .inr (8, [w39, w40, w41, w42, .int 0, w44, w45])), (q17, .inr (7, [w25, .ref q35, w27, .ref q36, .ref q37, .ref q38, w31, w32, w33, w34])), (q21, .inl (g.2 3, 10, .inr (.inr (.inr (.inr f22))))), (q16, .inr (10, [.ref q21, .int 0, w20])), (q1, .inr (11, [.ref q16, w6, .ref q17, w8, w9, w10, w11, w12, .int 0, w14, w15]))] sz 1 (fun _ => [])) 1 6 (va_A [(q35, .inl (g.2 0, 300, .inl f49)), (q36, .inl (g.2 0, 8, .inl f49)), (q48, .inl (g.2 1, 300, .inr (.inl f46))), (q38, .inr (3, [.ref q48])), (q37, .inl (g.2 1, 300, .inr (.inl f46))), (q24, .inr (8, [w39, w40, w41, w42, .int 0, w44, w45])), (q17, .inr (7, [w25, .ref q35, w27, .ref q36, .ref q37, .ref q38, w31, w32, w33, w34])), (q21, .inl (g.2 3, 10, .inr (.inr (.inr (.inr f22))))), (q16, .inr (10, [.ref q21, .int 0, w20])), (q1, .inr (11, [.ref q16, w6, .ref q17, w8, w9, w10, w11, w12, .int 0, w14, w15]))] sz) := by
  refine ofH (by decide) (Nat.le_of_ble_eq_true rfl) rfl ?_
  intro p e s m args below meth c A ls hAe hsz hx hb hml hr hlocks hin hown hE hP hD hA hS hl htb hz
  have hown : s.vm.findClass RL = some m.cls := hown
  refine lv_aload_n hx hb dL_note_0 rfl (lv_at hl 3 rfl) ?_
  refine lv_iconst (v := 0) hx hb dL_note_1 (by decide) ?_
  refine lv_aload_n hx hb dL_note_2 rfl (lv_at hl 0 rfl) ?_
  refine lv_iload_n hx hb dL_note_3 rfl (lv_at hl 1 rfl) ?_
  refine lv_iload_n hx hb dL_note_4 rfl (lv_at hl 2 rfl) ?_
  refine gx_i (wr := []) (rVx (rest := [.int 0, .ref q4]) hx hb hml hown hE hP hD hS hA hz 9 rfl rfl (c1676_X9_note l g hlx q1 q16 q17 q21 q24 q35 q36 q37 q38 q48 x2 x3 w6 w8 w9 w10 w11 w12 w14 w15 w20 w25 w27 w31 w32 w33 w34 w39 w40 w41 w42 w44 w45 f22 f46 f49 (hf23) h50 s.heap.size) (kV_X9_note hE (e877 hE) rfl rfl ⟨(Nat.le_of_ble_eq_true rfl), (Nat.le_of_ble_eq_true rfl)⟩) [0, 1, 2, 3, 4, 5, 6, 7, 8, 9] rfl (by decide) rfl hl.1 rfl (lv_room (Nat.le_of_ble_eq_true rfl)) dL_note_5 ⟨(Nat.le_of_ble_eq_true rfl), (Nat.le_of_ble_eq_true rfl)⟩) hP hD hS hA [0, 1, 2, 3, 4, 5, 6, 7, 8, 9] [] rfl rfl (by decide) (by decide) (fun ce9 q9 H locs hP hD hS hq1 hq2 hq3 => ?_)
  have hP : va_P g.1 vwCl [(q1, .inr (11, [.ref q16, w6, .ref q17, w8, w9, w10, w11, w12, .int 1, w14, w15])), (q21, .inl (g.2 3, 10, .inr (.inr (.inr (.inr f22))))), (q16, .inr (10, [.ref q21, .int 0, w20])), (q24, .inr (8, [w39, w40, w41, w42, .int 0, w44, w45])), (q36, .inl (g.2 0, 8, .inl (fillF 8 (-1) f49))), (q35, .inl (g.2 0, 300, .inl (fillF 300 (-1) f49))), (q48, .inl (g.2 1, 300, .inr (.inl f46))), (q38, .inr (3, [.ref q48])), (q37, .inl (g.2 1, 300, .inr (.inl f46))), (q17, .inr (7, [w25, .ref q35, w27, .ref q36, .ref q37, .ref q38, .int 0, .int 0, .int 0, .int 0]))] H := hP
  have hD : va_D A [(q1, .inr (11, [.ref q16, w6, .ref q17, w8, w9, w10, w11, w12, .int 1, w14, w15])), (q21, .inl (g.2 3, 10, .inr (.inr (.inr (.inr f22))))), (q16, .inr (10, [.ref q21, .int 0, w20])), (q24, .inr (8, [w39, w40, w41, w42, .int 0, w44, w45])), (q36, .inl (g.2 0, 8, .inl (fillF 8 (-1) f49))), (q35, .inl (g.2 0, 300, .inl (fillF 300 (-1) f49))), (q48, .inl (g.2 1, 300, .inr (.inl f46))), (q38, .inr (3, [.ref q48])), (q37, .inl (g.2 1, 300, .inr (.inl f46))), (q17, .inr (7, [w25, .ref q35, w27, .ref q36, .ref q37, .ref q38, .int 0, .int 0, .int 0, .int 0]))] := hD
  refine x_catch (name := "java/lang/IndexOutOfBoundsException") (hh := [(0, 10, 13, 13), (0, 10, 17, 15)]) (tgt := 13) hown htb [] ⟨0, 10, 13, 13⟩ [⟨0, 10, 17, 15⟩] rfl (fun _ h => nomatch h) rfl (by decide) (e532 hE) (e625 hE) hq1 hq2 hq3 rfl ?_
  refine lv_astore (lv' := [(4, .ref q9), (0, .ref q1), (1, .int x2), (2, .int x3), (3, .ref q4)]) hx hb dL_note_13 hl (by decide) rfl (fun ls hl => ?_)
  refine lv_iconst (v := 1) hx hb dL_note_15 (by decide) ?_
  exact x_zret hx hb hr rfl rfl hlocks hP hD hS hAe hsz (Nat.le_of_ble_eq_true rfl) (Nat.le_of_ble_eq_true rfl) (fun _ => 0) [] (by decide) rfl dL_note_16

set_option maxHeartbeats 4000000 in
set_option maxRecDepth 100000 in
theorem c1678_X10_isNote (l : Launch) (g : gG) (q1 q40 q41 q42 q43 : Nat) (x2 : Int32) (w4 w5 w6 w7 w8 w9 w12 w13 w14 w15 w16 w17 w18 w19 w20 w21 w22 w23 w24 w25 w26 w27 w29 w30 w31 w32 w33 w34 w35 w36 w37 w38 w39 : Value) (f44 : Nat → Int32) (f54 : Nat → Int32) (hf45 : f44 0 = 0) (hf46 : f44 49 = 0) (hf47 : f44 98 = 0) (hf48 : f44 147 = 0) (hf49 : f44 196 = 0) (hf50 : f44 245 = 0) (hf51 : f44 294 = 0) (hf52 : f44 343 = 0) (hf53 : f44 392 = 0) (hf55 : f54 0 = 0) (hf56 : f54 1 = 0) (hf57 : f54 2 = 0) (hf58 : f54 3 = 0) (hf59 : f54 4 = 0) (hf60 : f54 5 = 0) (hf61 : f54 6 = 0) (hf62 : f54 7 = 0) (h63 : x2 < 0) (sz : Nat) : Met l yX10_isNote [Cond.code yX10_isNote cX10_isNote 2 (some .boolean)] ({ frames := 4, cells := 0, slots := 0, locals := 89 } : Room) (va_Pc [.ref q1, .int x2] (PX g sz [(q43, .inl (g.2 0, 8, .inl f54)), (q42, .inl (g.2 0, 8, .inl f54)), (q41, .inl (g.2 0, 8, .inl f54)), (q40, .inl (g.2 0, 497, .inl f44)), (q1, .inr (12, [.ref q40, w4, w5, w6, w7, w8, w9, .ref q41, .ref q42, w12, w13, w14, w15, w16, w17, w18, w19, w20, w21, w22, w23, w24, w25, w26, w27, .ref q43, w29, w30, w31, w32, w33, w34, w35, w36, w37, w38, w39]))])) (QI g [(q43, .inl (g.2 0, 8, .inl f54)), (q42, .inl (g.2 0, 8, .inl f54)), (q41, .inl (g.2 0, 8, .inl f54)), (q40, .inl (g.2 0, 497, .inl f44)), (q1, .inr (12, [.ref q40, w4, w5, w6, w7, w8, w9, .ref q41, .ref q42, w12, w13, w14, w15, w16, w17, w18, w19, w20, w21, w22, w23, w24, w25, w26, w27, .ref q43, w29, w30, w31, w32, w33, w34, w35, w36, w37, w38, w39]))] sz 0 (fun _ => [(q42, .inl (g.2 0, 8, .inl f54)), (q41, .inl (g.2 0, 8, .inl f54)), (q40, .inl (g.2 0, 497, .inl f44)), (q43, .inl (g.2 0, 8, .inl (upd (upd (upd (upd (upd (upd (upd (upd f54 0 (-1)) 1 (-1)) 2 (-1)) 3 (-1)) 4 (-1)) 5 (-1)) 6 (-1)) 7 (-1)))), (q1, .inr (12, [.ref q40, w4, w5, w6, w7, w8, w9, .ref q41, .ref q42, w12, w13, w14, w15, w16, .int 0, w18, w19, w20, w21, w22, w23, w24, w25, w26, w27, .ref q43, w29, w30, w31, w32, w33, w34, w35, w36, w37, w38, w39]))])) 0 0 (va_A [(q43, .inl (g.2 0, 8, .inl f54)), (q42, .inl (g.2 0, 8, .inl f54)), (q41, .inl (g.2 0, 8, .inl f54)), (q40, .inl (g.2 0, 497, .inl f44)), (q1, .inr (12, [.ref q40, w4, w5, w6, w7, w8, w9, .ref q41, .ref q42, w12, w13, w14, w15, w16, w17, w18, w19, w20, w21, w22, w23, w24, w25, w26, w27, .ref q43, w29, w30, w31, w32, w33, w34, w35, w36, w37, w38, w39]))] sz) := by
  refine ofN (by decide) (Nat.le_of_ble_eq_true rfl) rfl ?_
  intro p e s m args below meth c A ls hAe hsz hx hb hml hr hlocks hin hown hE hP hD hA hS hl
  have hown : s.vm.findClass RX10 = some m.cls := hown
  refine lv_aload_n hx hb dX10_isNote_0 rfl (lv_at hl 0 rfl) ?_
  refine g_v (wr := []) (rV (rest := []) hx hb hml hown hE hP hD 4 rfl rfl (c1632_X10_layNotes l g q1 q40 q41 q42 q43 w4 w5 w6 w7 w8 w9 w12 w13 w14 w15 w16 w17 w18 w19 w20 w21 w22 w23 w24 w25 w26 w27 w29 w30 w31 w32 w33 w34 w35 w36 w37 w38 w39 f44 f54 (hf45) (hf46) (hf47) (hf48) (hf49) (hf50) (hf51) (hf52) (hf55) (hf56) (hf57) (hf58) (hf59) (hf60) (hf61) (hf62) (hf53) s.heap.size) (kV_X10_layNotes hE (e1543 hE) rfl rfl ⟨(Nat.le_of_ble_eq_true rfl), (Nat.le_of_ble_eq_true rfl)⟩) [0, 1, 2, 3, 4] rfl (by decide) rfl hl.1 rfl (lv_room (Nat.le_of_ble_eq_true rfl)) dX10_isNote_1 ⟨(Nat.le_of_ble_eq_true rfl), (Nat.le_of_ble_eq_true rfl)⟩) hP hD hS hA [0, 1, 2, 3, 4] [] rfl rfl (by decide) (by decide) (fun u1 H locs hP hD hS => ?_)
  have hP : va_P g.1 vwCl [(q42, .inl (g.2 0, 8, .inl f54)), (q41, .inl (g.2 0, 8, .inl f54)), (q40, .inl (g.2 0, 497, .inl f44)), (q43, .inl (g.2 0, 8, .inl (upd (upd (upd (upd (upd (upd (upd (upd f54 0 (-1)) 1 (-1)) 2 (-1)) 3 (-1)) 4 (-1)) 5 (-1)) 6 (-1)) 7 (-1)))), (q1, .inr (12, [.ref q40, w4, w5, w6, w7, w8, w9, .ref q41, .ref q42, w12, w13, w14, w15, w16, .int 0, w18, w19, w20, w21, w22, w23, w24, w25, w26, w27, .ref q43, w29, w30, w31, w32, w33, w34, w35, w36, w37, w38, w39]))] H := hP
  have hD : va_D A [(q42, .inl (g.2 0, 8, .inl f54)), (q41, .inl (g.2 0, 8, .inl f54)), (q40, .inl (g.2 0, 497, .inl f44)), (q43, .inl (g.2 0, 8, .inl (upd (upd (upd (upd (upd (upd (upd (upd f54 0 (-1)) 1 (-1)) 2 (-1)) 3 (-1)) 4 (-1)) 5 (-1)) 6 (-1)) 7 (-1)))), (q1, .inr (12, [.ref q40, w4, w5, w6, w7, w8, w9, .ref q41, .ref q42, w12, w13, w14, w15, w16, .int 0, w18, w19, w20, w21, w22, w23, w24, w25, w26, w27, .ref q43, w29, w30, w31, w32, w33, w34, w35, w36, w37, w38, w39]))] := hD
  refine lv_iload_n hx hb dX10_isNote_4 rfl (lv_at hl 1 rfl) ?_
  refine lv_iconst (v := 0) hx hb dX10_isNote_5 (by decide) ?_
  refine lv_aload_n hx hb dX10_isNote_6 rfl (lv_at hl 0 rfl) ?_
  refine gf_RX10_176 hx hb hown hE hP 4 rfl rfl dX10_isNote_7 ?_
  refine lv_iconst (v := 1) hx hb dX10_isNote_10 (by decide) ?_
  refine x_isub (v := (-1)) hx hb dX10_isNote_11 (by decide) ?_
  refine g0_i (rS (rest := []) hx hb hml hown hE hP hD (c642_X10_in l g x2 (-1) h63 H.size) (kS_X10_in hE (e1431 hE) rfl rfl ⟨(Nat.le_of_ble_eq_true rfl), (Nat.le_of_ble_eq_true rfl)⟩) [] rfl (by decide) rfl hl.1 rfl (lv_room (Nat.le_of_ble_eq_true rfl)) dX10_isNote_12 ⟨(Nat.le_of_ble_eq_true rfl), (Nat.le_of_ble_eq_true rfl)⟩) hP hD hS hA (fun u9 H locs hP hS => ?_)
  exact x_zret hx hb hr rfl rfl hlocks hP hD hS hAe hsz (Nat.le_of_ble_eq_true rfl) (Nat.le_of_ble_eq_true rfl) (fun _ => 0) [0, 1, 2, 3, 4] (by decide) rfl dX10_isNote_15

set_option maxHeartbeats 4000000 in
set_option maxRecDepth 100000 in
theorem c1679_X10_note (l : Launch) (g : gG) (q1 q41 q42 q43 q44 : Nat) (x2 x3 : Int32) (w5 w6 w7 w8 w9 w10 w13 w14 w15 w16 w17 w18 w19 w20 w21 w22 w23 w24 w25 w26 w27 w28 w30 w31 w32 w33 w34 w35 w36 w37 w38 w39 w40 : Value) (f45 : Nat → Int32) (f55 : Nat → Int32) (hf46 : f45 0 = 0) (hf47 : f45 49 = 0) (hf48 : f45 98 = 0) (hf49 : f45 147 = 0) (hf50 : f45 196 = 0) (hf51 : f45 245 = 0) (hf52 : f45 294 = 0) (hf53 : f45 343 = 0) (hf54 : f45 392 = 0) (hf56 : f55 0 = 0) (hf57 : f55 1 = 0) (hf58 : f55 2 = 0) (hf59 : f55 3 = 0) (hf60 : f55 4 = 0) (hf61 : f55 5 = 0) (hf62 : f55 6 = 0) (hf63 : f55 7 = 0) (h64 : x2 < 0) (sz : Nat) : Met l yX10_note [Cond.code yX10_note cX10_note 3 (some .int)] ({ frames := 5, cells := 0, slots := 0, locals := 110 } : Room) (va_Pc [.ref q1, .int x2, .int x3] (PX g sz [(q44, .inl (g.2 0, 8, .inl f55)), (q43, .inl (g.2 0, 8, .inl f55)), (q42, .inl (g.2 0, 8, .inl f55)), (q41, .inl (g.2 0, 497, .inl f45)), (q1, .inr (12, [.ref q41, w5, w6, w7, w8, w9, w10, .ref q42, .ref q43, w13, w14, w15, w16, w17, w18, w19, w20, w21, w22, w23, w24, w25, w26, w27, w28, .ref q44, w30, w31, w32, w33, w34, w35, w36, w37, w38, w39, w40]))])) (QI g [(q44, .inl (g.2 0, 8, .inl f55)), (q43, .inl (g.2 0, 8, .inl f55)), (q42, .inl (g.2 0, 8, .inl f55)), (q41, .inl (g.2 0, 497, .inl f45)), (q1, .inr (12, [.ref q41, w5, w6, w7, w8, w9, w10, .ref q42, .ref q43, w13, w14, w15, w16, w17, w18, w19, w20, w21, w22, w23, w24, w25, w26, w27, w28, .ref q44, w30, w31, w32, w33, w34, w35, w36, w37, w38, w39, w40]))] sz 0 (fun _ => [(q1, .inr (12, [.ref q41, w5, w6, w7, w8, w9, .int 1, .ref q42, .ref q43, w13, w14, w15, w16, w17, .int 0, w19, w20, w21, w22, w23, w24, w25, w26, w27, w28, .ref q44, w30, w31, w32, w33, w34, w35, w36, w37, w38, w39, w40]))])) 0 0 (va_A [(q44, .inl (g.2 0, 8, .inl f55)), (q43, .inl (g.2 0, 8, .inl f55)), (q42, .inl (g.2 0, 8, .inl f55)), (q41, .inl (g.2 0, 497, .inl f45)), (q1, .inr (12, [.ref q41, w5, w6, w7, w8, w9, w10, .ref q42, .ref q43, w13, w14, w15, w16, w17, w18, w19, w20, w21, w22, w23, w24, w25, w26, w27, w28, .ref q44, w30, w31, w32, w33, w34, w35, w36, w37, w38, w39, w40]))] sz) := by
  refine ofN (by decide) (Nat.le_of_ble_eq_true rfl) rfl ?_
  intro p e s m args below meth c A ls hAe hsz hx hb hml hr hlocks hin hown hE hP hD hA hS hl
  have hown : s.vm.findClass RX10 = some m.cls := hown
  refine lv_aload_n hx hb dX10_note_0 rfl (lv_at hl 0 rfl) ?_
  refine lv_aload_n hx hb dX10_note_1 rfl (lv_at hl 0 rfl) ?_
  refine lv_iload_n hx hb dX10_note_2 rfl (lv_at hl 1 rfl) ?_
  refine g_i (wr := []) (rV (rest := [.ref q1]) hx hb hml hown hE hP hD 4 rfl rfl (c1678_X10_isNote l g q1 q41 q42 q43 q44 x2 w5 w6 w7 w8 w9 w10 w13 w14 w15 w16 w17 w18 w19 w20 w21 w22 w23 w24 w25 w26 w27 w28 w30 w31 w32 w33 w34 w35 w36 w37 w38 w39 w40 f45 f55 (hf46) (hf47) (hf48) (hf49) (hf50) (hf51) (hf52) (hf53) (hf54) (hf56) (hf57) (hf58) (hf59) (hf60) (hf61) (hf62) (hf63) h64 s.heap.size) (kV_X10_isNote hE (e1596 hE) rfl rfl ⟨(Nat.le_of_ble_eq_true rfl), (Nat.le_of_ble_eq_true rfl)⟩) [0, 1, 2, 3, 4] rfl (by decide) rfl hl.1 rfl (lv_room (Nat.le_of_ble_eq_true rfl)) dX10_note_3 ⟨(Nat.le_of_ble_eq_true rfl), (Nat.le_of_ble_eq_true rfl)⟩) hP hD hS hA [0, 1, 2, 3, 4] [] rfl rfl (by decide) (by decide) (fun u1 H locs hP hD hS => ?_)
  have hP : va_P g.1 vwCl [(q43, .inl (g.2 0, 8, .inl f55)), (q42, .inl (g.2 0, 8, .inl f55)), (q41, .inl (g.2 0, 497, .inl f45)), (q44, .inl (g.2 0, 8, .inl (upd (upd (upd (upd (upd (upd (upd (upd f55 0 (-1)) 1 (-1)) 2 (-1)) 3 (-1)) 4 (-1)) 5 (-1)) 6 (-1)) 7 (-1)))), (q1, .inr (12, [.ref q41, w5, w6, w7, w8, w9, w10, .ref q42, .ref q43, w13, w14, w15, w16, w17, .int 0, w19, w20, w21, w22, w23, w24, w25, w26, w27, w28, .ref q44, w30, w31, w32, w33, w34, w35, w36, w37, w38, w39, w40]))] H := hP
  have hD : va_D A [(q43, .inl (g.2 0, 8, .inl f55)), (q42, .inl (g.2 0, 8, .inl f55)), (q41, .inl (g.2 0, 497, .inl f45)), (q44, .inl (g.2 0, 8, .inl (upd (upd (upd (upd (upd (upd (upd (upd f55 0 (-1)) 1 (-1)) 2 (-1)) 3 (-1)) 4 (-1)) 5 (-1)) 6 (-1)) 7 (-1)))), (q1, .inr (12, [.ref q41, w5, w6, w7, w8, w9, w10, .ref q42, .ref q43, w13, w14, w15, w16, w17, .int 0, w19, w20, w21, w22, w23, w24, w25, w26, w27, w28, .ref q44, w30, w31, w32, w33, w34, w35, w36, w37, w38, w39, w40]))] := hD
  refine lv_if_ne (tgt := 13) hx hb dX10_note_6 (by decide) (fun h => absurd h (by decide)) (fun _ => ?_)
  refine lv_iconst (v := 1) hx hb dX10_note_9 (by decide) ?_
  refine lv_goto (tgt := 28) hx hb dX10_note_10 (by decide) ?_
  refine pf_RX10_86 (ws' := [(q43, .inl (g.2 0, 8, .inl f55)), (q42, .inl (g.2 0, 8, .inl f55)), (q41, .inl (g.2 0, 497, .inl f45)), (q44, .inl (g.2 0, 8, .inl (upd (upd (upd (upd (upd (upd (upd (upd f55 0 (-1)) 1 (-1)) 2 (-1)) 3 (-1)) 4 (-1)) 5 (-1)) 6 (-1)) 7 (-1)))), (q1, .inr (12, [.ref q41, w5, w6, w7, w8, w9, .int 1, .ref q42, .ref q43, w13, w14, w15, w16, w17, .int 0, w19, w20, w21, w22, w23, w24, w25, w26, w27, w28, .ref q44, w30, w31, w32, w33, w34, w35, w36, w37, w38, w39, w40]))]) hx hb hown hE hP hD hS 4 rfl rfl rfl (Nat.le_of_ble_eq_true rfl) dX10_note_28 rfl (fun H locs hP hD hS => ?_)
  refine lv_aload_n hx hb dX10_note_31 rfl (lv_at hl 0 rfl) ?_
  refine gf_RX10_86 hx hb hown hE hP 4 rfl rfl dX10_note_32 ?_
  refine lv_if_le (tgt := 40) hx hb dX10_note_35 (by decide) (fun h => absurd h (by decide)) (fun _ => ?_)
  refine lv_iconst (v := 0) hx hb dX10_note_38 (by decide) ?_
  exact x_zret hx hb hr rfl rfl hlocks hP hD hS hAe hsz (Nat.le_of_ble_eq_true rfl) (Nat.le_of_ble_eq_true rfl) (fun _ => 0) [4] (by decide) rfl dX10_note_39

set_option maxHeartbeats 4000000 in
set_option maxRecDepth 100000 in
theorem c1680_X9_note (l : Launch) (g : gG) (hlx : l.stackTraces = false) (q1 q15 q16 q20 q23 q34 q35 q36 q37 q47 : Nat) (x2 x3 : Int32) (w5 w7 w8 w9 w10 w11 w13 w14 w19 w24 w26 w30 w31 w32 w33 w38 w39 w40 w41 w43 w44 : Value) (f21 : Nat → Option Nat) (f45 : Nat → Int64) (f48 : Nat → Int32) (hf22 : f21 0 = some q23) (h49 : (0 : Int32) ≤ x2) (sz : Nat) : vx_Met l yX9_note [Cond.code yX9_note cX9_note 4 (some .int)] ({ frames := 7, cells := 1, slots := 6, locals := 121 } : Room) (va_Pc [.ref q1, .int x2, .int x3] (PZ g sz [(q34, .inl (g.2 0, 300, .inl f48)), (q35, .inl (g.2 0, 8, .inl f48)), (q47, .inl (g.2 1, 300, .inr (.inl f45))), (q37, .inr (3, [.ref q47])), (q36, .inl (g.2 1, 300, .inr (.inl f45))), (q23, .inr (8, [w38, w39, w40, w41, .int 0, w43, w44])), (q16, .inr (7, [w24, .ref q34, w26, .ref q35, .ref q36, .ref q37, w30, w31, w32, w33])), (q20, .inl (g.2 3, 10, .inr (.inr (.inr (.inr f21))))), (q15, .inr (10, [.ref q20, .int 0, w19])), (q1, .inr (11, [.ref q15, w5, .ref q16, w7, w8, w9, w10, w11, .int 0, w13, w14]))])) NI (XW g [(q34, .inl (g.2 0, 300, .inl f48)), (q35, .inl (g.2 0, 8, .inl f48)), (q47, .inl (g.2 1, 300, .inr (.inl f45))), (q37, .inr (3, [.ref q47])), (q36, .inl (g.2 1, 300, .inr (.inl f45))), (q23, .inr (8, [w38, w39, w40, w41, .int 0, w43, w44])), (q16, .inr (7, [w24, .ref q34, w26, .ref q35, .ref q36, .ref q37, w30, w31, w32, w33])), (q20, .inl (g.2 3, 10, .inr (.inr (.inr (.inr f21))))), (q15, .inr (10, [.ref q20, .int 0, w19])), (q1, .inr (11, [.ref q15, w5, .ref q16, w7, w8, w9, w10, w11, .int 0, w13, w14]))] sz "java/lang/IndexOutOfBoundsException" [(q1, .inr (11, [.ref q15, w5, .ref q16, w7, w8, w9, w10, w11, .int 1, w13, w14])), (q20, .inl (g.2 3, 10, .inr (.inr (.inr (.inr f21))))), (q15, .inr (10, [.ref q20, .int 0, w19])), (q23, .inr (8, [w38, w39, w40, w41, .int 0, w43, w44])), (q35, .inl (g.2 0, 8, .inl (fillF 8 (-1) f48))), (q34, .inl (g.2 0, 300, .inl (fillF 300 (-1) f48))), (q47, .inl (g.2 1, 300, .inr (.inl f45))), (q37, .inr (3, [.ref q47])), (q36, .inl (g.2 1, 300, .inr (.inl f45))), (q16, .inr (7, [w24, .ref q34, w26, .ref q35, .ref q36, .ref q37, .int 0, .int 0, .int 0, .int 0]))]) 1 6 (va_A [(q34, .inl (g.2 0, 300, .inl f48)), (q35, .inl (g.2 0, 8, .inl f48)), (q47, .inl (g.2 1, 300, .inr (.inl f45))), (q37, .inr (3, [.ref q47])), (q36, .inl (g.2 1, 300, .inr (.inl f45))), (q23, .inr (8, [w38, w39, w40, w41, .int 0, w43, w44])), (q16, .inr (7, [w24, .ref q34, w26, .ref q35, .ref q36, .ref q37, w30, w31, w32, w33])), (q20, .inl (g.2 3, 10, .inr (.inr (.inr (.inr f21))))), (q15, .inr (10, [.ref q20, .int 0, w19])), (q1, .inr (11, [.ref q15, w5, .ref q16, w7, w8, w9, w10, w11, .int 0, w13, w14]))] sz) := by
  refine ofX (by decide) (Nat.le_of_ble_eq_true rfl) rfl ?_
  intro p e s m args below meth c A ls hAe hsz hx hb hml hr hlocks hin hown hE hP hD hA hS hl hex hz
  have hown : s.vm.findClass RX9 = some m.cls := hown
  refine lv_aload_n hx hb dX9_note_0 rfl (lv_at hl 0 rfl) ?_
  refine g_r (wr := []) (rV (rest := []) hx hb hml hown hE hP hD 9 rfl rfl (c1638_X9_upToDateScore l g q1 q15 q20 q23 q16 q37 q36 q47 q35 q34 w5 w7 w8 w9 w10 w11 w13 w14 w19 w24 w26 w30 w31 w32 w33 w38 w39 w40 w41 w43 w44 f21 f45 f48 (hf22) s.heap.size) (kV_X9_upToDateScore hE (e318 hE) rfl rfl ⟨(Nat.le_of_ble_eq_true rfl), (Nat.le_of_ble_eq_true rfl)⟩) [0, 1, 2, 3, 4, 5, 6, 7, 8, 9] rfl (by decide) rfl hl.1 rfl (lv_room (Nat.le_of_ble_eq_true rfl)) dX9_note_1 ⟨(Nat.le_of_ble_eq_true rfl), (Nat.le_of_ble_eq_true rfl)⟩) hP hD hS hA [0, 1, 2, 3, 4, 5, 6, 7, 8, 9] [] rfl rfl (by decide) (by decide) (fun u1 H locs hP hD hS => ?_)
  have hP : va_P g.1 vwCl [(q1, .inr (11, [.ref q15, w5, .ref q16, w7, w8, w9, w10, w11, .int 1, w13, w14])), (q20, .inl (g.2 3, 10, .inr (.inr (.inr (.inr f21))))), (q15, .inr (10, [.ref q20, .int 0, w19])), (q23, .inr (8, [w38, w39, w40, w41, .int 0, w43, w44])), (q16, .inr (7, [w24, .ref q34, w26, .ref q35, .ref q36, .ref q37, .int 0, .int 0, .int 0, .int 0])), (q35, .inl (g.2 0, 8, .inl (fillF 8 (-1) f48))), (q34, .inl (g.2 0, 300, .inl (fillF 300 (-1) f48))), (q47, .inl (g.2 1, 300, .inr (.inl f45))), (q37, .inr (3, [.ref q47])), (q36, .inl (g.2 1, 300, .inr (.inl f45)))] H := hP
  have hD : va_D A [(q1, .inr (11, [.ref q15, w5, .ref q16, w7, w8, w9, w10, w11, .int 1, w13, w14])), (q20, .inl (g.2 3, 10, .inr (.inr (.inr (.inr f21))))), (q15, .inr (10, [.ref q20, .int 0, w19])), (q23, .inr (8, [w38, w39, w40, w41, .int 0, w43, w44])), (q16, .inr (7, [w24, .ref q34, w26, .ref q35, .ref q36, .ref q37, .int 0, .int 0, .int 0, .int 0])), (q35, .inl (g.2 0, 8, .inl (fillF 8 (-1) f48))), (q34, .inl (g.2 0, 300, .inl (fillF 300 (-1) f48))), (q47, .inl (g.2 1, 300, .inr (.inl f45))), (q37, .inr (3, [.ref q47])), (q36, .inl (g.2 1, 300, .inr (.inl f45)))] := hD
  refine lv_astore_n (lv' := [(3, .ref q16), (0, .ref q1), (1, .int x2), (2, .int x3)]) hx hb dX9_note_4 rfl hl (by decide) rfl (fun ls hl => ?_)
  refine lv_iload_n hx hb dX9_note_5 rfl (lv_at hl 2 rfl) ?_
  refine lv_aload_n hx hb dX9_note_6 rfl (lv_at hl 0 rfl) ?_
  refine g_i (wr := [(q1, .inr (11, [.ref q15, w5, .ref q16, w7, w8, w9, w10, w11, .int 1, w13, w14])), (q20, .inl (g.2 3, 10, .inr (.inr (.inr (.inr f21))))), (q15, .inr (10, [.ref q20, .int 0, w19])), (q23, .inr (8, [w38, w39, w40, w41, .int 0, w43, w44])), (q35, .inl (g.2 0, 8, .inl (fillF 8 (-1) f48))), (q34, .inl (g.2 0, 300, .inl (fillF 300 (-1) f48))), (q47, .inl (g.2 1, 300, .inr (.inl f45))), (q37, .inr (3, [.ref q47])), (q36, .inl (g.2 1, 300, .inr (.inl f45)))]) (rV (rest := [.int x2]) hx hb hml hown hE hP hD 4 rfl rfl (c1639_X5_noteCount l g q16 w24 (.ref q34) w26 (.ref q35) (.ref q36) (.ref q37) (.int 0) (.int 0) (.int 0) H.size) (kV_X5_noteCount hE (e856 hE) rfl rfl ⟨(Nat.le_of_ble_eq_true rfl), (Nat.le_of_ble_eq_true rfl)⟩) [4] rfl (by decide) rfl hl.1 rfl (lv_room (Nat.le_of_ble_eq_true rfl)) dX9_note_7 ⟨(Nat.le_of_ble_eq_true rfl), (Nat.le_of_ble_eq_true rfl)⟩) hP hD hS hA [4] [0, 1, 2, 3, 5, 6, 7, 8, 9] rfl rfl (by decide) (by decide) (fun u2 H locs hP hD hS => ?_)
  have hP : va_P g.1 vwCl [(q1, .inr (11, [.ref q15, w5, .ref q16, w7, w8, w9, w10, w11, .int 1, w13, w14])), (q20, .inl (g.2 3, 10, .inr (.inr (.inr (.inr f21))))), (q15, .inr (10, [.ref q20, .int 0, w19])), (q23, .inr (8, [w38, w39, w40, w41, .int 0, w43, w44])), (q35, .inl (g.2 0, 8, .inl (fillF 8 (-1) f48))), (q34, .inl (g.2 0, 300, .inl (fillF 300 (-1) f48))), (q47, .inl (g.2 1, 300, .inr (.inl f45))), (q37, .inr (3, [.ref q47])), (q36, .inl (g.2 1, 300, .inr (.inl f45))), (q16, .inr (7, [w24, .ref q34, w26, .ref q35, .ref q36, .ref q37, .int 0, .int 0, .int 0, .int 0]))] H := hP
  have hD : va_D A [(q1, .inr (11, [.ref q15, w5, .ref q16, w7, w8, w9, w10, w11, .int 1, w13, w14])), (q20, .inl (g.2 3, 10, .inr (.inr (.inr (.inr f21))))), (q15, .inr (10, [.ref q20, .int 0, w19])), (q23, .inr (8, [w38, w39, w40, w41, .int 0, w43, w44])), (q35, .inl (g.2 0, 8, .inl (fillF 8 (-1) f48))), (q34, .inl (g.2 0, 300, .inl (fillF 300 (-1) f48))), (q47, .inl (g.2 1, 300, .inr (.inl f45))), (q37, .inr (3, [.ref q47])), (q36, .inl (g.2 1, 300, .inr (.inl f45))), (q16, .inr (7, [w24, .ref q34, w26, .ref q35, .ref q36, .ref q37, .int 0, .int 0, .int 0, .int 0]))] := hD
  refine gx_v (wr := [(q1, .inr (11, [.ref q15, w5, .ref q16, w7, w8, w9, w10, w11, .int 1, w13, w14])), (q20, .inl (g.2 3, 10, .inr (.inr (.inr (.inr f21))))), (q15, .inr (10, [.ref q20, .int 0, w19])), (q23, .inr (8, [w38, w39, w40, w41, .int 0, w43, w44])), (q35, .inl (g.2 0, 8, .inl (fillF 8 (-1) f48))), (q34, .inl (g.2 0, 300, .inl (fillF 300 (-1) f48))), (q47, .inl (g.2 1, 300, .inr (.inl f45))), (q37, .inr (3, [.ref q47])), (q36, .inl (g.2 1, 300, .inr (.inl f45))), (q16, .inr (7, [w24, .ref q34, w26, .ref q35, .ref q36, .ref q37, .int 0, .int 0, .int 0, .int 0]))]) (rSx (rest := []) hx hb hml hown hE hP hD hS hA hz (c1169_X9_requireIndex l g hlx x2 h49 H.size) (kS_X9_requireIndex hE (e620 hE) rfl rfl ⟨(Nat.le_of_ble_eq_true rfl), (Nat.le_of_ble_eq_true rfl)⟩) [] rfl (by decide) rfl hl.1 rfl (lv_room (Nat.le_of_ble_eq_true rfl)) dX9_note_10 ⟨(Nat.le_of_ble_eq_true rfl), (Nat.le_of_ble_eq_true rfl)⟩) hP hD hS hA [] [0, 1, 2, 3, 4, 5, 6, 7, 8, 9] rfl rfl (by decide) (by decide) (fun ce9 q9 H locs hP hD hS hq1 hq2 hq3 => ?_)
  exact x_out hex hlocks hq1 hq2 hq3 hP hD hS hAe hsz (Nat.le_of_ble_eq_true rfl) (Nat.le_of_ble_eq_true rfl) [0, 1, 2, 3, 4, 5, 6, 7, 8, 9] (by decide) rfl

set_option maxHeartbeats 4000000 in
set_option maxRecDepth 100000 in
theorem c1681_L_note (l : Launch) (g : gG) (hlx : l.stackTraces = false) (q1 q4 q16 q17 q21 q24 q35 q36 q37 q38 q48 : Nat) (x2 x3 : Int32) (w6 w8 w9 w10 w11 w12 w14 w15 w20 w25 w27 w31 w32 w33 w34 w39 w40 w41 w42 w44 w45 : Value) (f22 : Nat → Option Nat) (f46 : Nat → Int64) (f49 : Nat → Int32) (hf23 : f22 0 = some q24) (h50 : (0 : Int32) ≤ x2) (sz : Nat) : Met l yL_note [Cond.codeWith yL_note cL_note 5 (some .int) [(0, 10, 13, 13), (0, 10, 17, 15)]] ({ frames := 8, cells := 1, slots := 6, locals := 144 } : Room) (va_Pc [.ref q1, .int x2, .int x3, .ref q4] (PZ g sz [(q35, .inl (g.2 0, 300, .inl f49)), (q36, .inl (g.2 0, 8, .inl f49)), (q48, .inl (g.2 1, 300, .inr (.inl f46))), (q38, .inr (3, [.ref q48])), (q37, .inl (g.2 1, 300, .inr (.inl f46))), (q24, .inr (8, [w39, w40, w41, w42, .int 0, w44, w45])), (q17, .inr (7, [w25, .ref q35, w27, .ref q36, .ref q37, .ref q38, w31, w32, w33, w34])), (q21, .inl (g.2 3, 10, .inr (.inr (.inr (.inr f22))))), (q16, .inr (10, [.ref q21, .int 0, w20])), (q1, .inr (11, [.ref q16, w6, .ref q17, w8, w9, w10, w11, w12, .int 0, w14, w15]))])) (QI g [(q35, .inl (g.2 0, 300, .inl f49)), (q36, .inl (g.2 0, 8, .inl f49)), (q48, .inl (g.2 1, 300, .inr (.inl f46))), (q38, .inr (3, [.ref q48])), (q37, .inl (g.2 1, 300, .inr (.inl f46))), (q24, .inr (8, [w39, w40, w41, w42, .int 0, w44, w45])), (q17, .inr (7, [w25, .ref q35, w27, .ref q36, .ref q37, .ref q38, w31, w32, w33, w34])), (q21, .inl (g.2 3, 10, .inr (.inr (.inr (.inr f22))))), (q16, .inr (10, [.ref q21, .int 0, w20])), (q1, .inr (11, [.ref q16, w6, .ref q17, w8, w9, w10, w11, w12, .int 0, w14, w15]))] sz 1 (fun _ => [])) 1 6 (va_A [(q35, .inl (g.2 0, 300, .inl f49)), (q36, .inl (g.2 0, 8, .inl f49)), (q48, .inl (g.2 1, 300, .inr (.inl f46))), (q38, .inr (3, [.ref q48])), (q37, .inl (g.2 1, 300, .inr (.inl f46))), (q24, .inr (8, [w39, w40, w41, w42, .int 0, w44, w45])), (q17, .inr (7, [w25, .ref q35, w27, .ref q36, .ref q37, .ref q38, w31, w32, w33, w34])), (q21, .inl (g.2 3, 10, .inr (.inr (.inr (.inr f22))))), (q16, .inr (10, [.ref q21, .int 0, w20])), (q1, .inr (11, [.ref q16, w6, .ref q17, w8, w9, w10, w11, w12, .int 0, w14, w15]))] sz) := by
  refine ofH (by decide) (Nat.le_of_ble_eq_true rfl) rfl ?_
  intro p e s m args below meth c A ls hAe hsz hx hb hml hr hlocks hin hown hE hP hD hA hS hl htb hz
  have hown : s.vm.findClass RL = some m.cls := hown
  refine lv_aload_n hx hb dL_note_0 rfl (lv_at hl 3 rfl) ?_
  refine lv_iconst (v := 0) hx hb dL_note_1 (by decide) ?_
  refine lv_aload_n hx hb dL_note_2 rfl (lv_at hl 0 rfl) ?_
  refine lv_iload_n hx hb dL_note_3 rfl (lv_at hl 1 rfl) ?_
  refine lv_iload_n hx hb dL_note_4 rfl (lv_at hl 2 rfl) ?_
  refine gx_i (wr := []) (rVx (rest := [.int 0, .ref q4]) hx hb hml hown hE hP hD hS hA hz 9 rfl rfl (c1680_X9_note l g hlx q1 q16 q17 q21 q24 q35 q36 q37 q38 q48 x2 x3 w6 w8 w9 w10 w11 w12 w14 w15 w20 w25 w27 w31 w32 w33 w34 w39 w40 w41 w42 w44 w45 f22 f46 f49 (hf23) h50 s.heap.size) (kV_X9_note hE (e877 hE) rfl rfl ⟨(Nat.le_of_ble_eq_true rfl), (Nat.le_of_ble_eq_true rfl)⟩) [0, 1, 2, 3, 4, 5, 6, 7, 8, 9] rfl (by decide) rfl hl.1 rfl (lv_room (Nat.le_of_ble_eq_true rfl)) dL_note_5 ⟨(Nat.le_of_ble_eq_true rfl), (Nat.le_of_ble_eq_true rfl)⟩) hP hD hS hA [0, 1, 2, 3, 4, 5, 6, 7, 8, 9] [] rfl rfl (by decide) (by decide) (fun ce9 q9 H locs hP hD hS hq1 hq2 hq3 => ?_)
  have hP : va_P g.1 vwCl [(q1, .inr (11, [.ref q16, w6, .ref q17, w8, w9, w10, w11, w12, .int 1, w14, w15])), (q21, .inl (g.2 3, 10, .inr (.inr (.inr (.inr f22))))), (q16, .inr (10, [.ref q21, .int 0, w20])), (q24, .inr (8, [w39, w40, w41, w42, .int 0, w44, w45])), (q36, .inl (g.2 0, 8, .inl (fillF 8 (-1) f49))), (q35, .inl (g.2 0, 300, .inl (fillF 300 (-1) f49))), (q48, .inl (g.2 1, 300, .inr (.inl f46))), (q38, .inr (3, [.ref q48])), (q37, .inl (g.2 1, 300, .inr (.inl f46))), (q17, .inr (7, [w25, .ref q35, w27, .ref q36, .ref q37, .ref q38, .int 0, .int 0, .int 0, .int 0]))] H := hP
  have hD : va_D A [(q1, .inr (11, [.ref q16, w6, .ref q17, w8, w9, w10, w11, w12, .int 1, w14, w15])), (q21, .inl (g.2 3, 10, .inr (.inr (.inr (.inr f22))))), (q16, .inr (10, [.ref q21, .int 0, w20])), (q24, .inr (8, [w39, w40, w41, w42, .int 0, w44, w45])), (q36, .inl (g.2 0, 8, .inl (fillF 8 (-1) f49))), (q35, .inl (g.2 0, 300, .inl (fillF 300 (-1) f49))), (q48, .inl (g.2 1, 300, .inr (.inl f46))), (q38, .inr (3, [.ref q48])), (q37, .inl (g.2 1, 300, .inr (.inl f46))), (q17, .inr (7, [w25, .ref q35, w27, .ref q36, .ref q37, .ref q38, .int 0, .int 0, .int 0, .int 0]))] := hD
  refine x_catch (name := "java/lang/IndexOutOfBoundsException") (hh := [(0, 10, 13, 13), (0, 10, 17, 15)]) (tgt := 13) hown htb [] ⟨0, 10, 13, 13⟩ [⟨0, 10, 17, 15⟩] rfl (fun _ h => nomatch h) rfl (by decide) (e532 hE) (e625 hE) hq1 hq2 hq3 rfl ?_
  refine lv_astore (lv' := [(4, .ref q9), (0, .ref q1), (1, .int x2), (2, .int x3), (3, .ref q4)]) hx hb dL_note_13 hl (by decide) rfl (fun ls hl => ?_)
  refine lv_iconst (v := 1) hx hb dL_note_15 (by decide) ?_
  exact x_zret hx hb hr rfl rfl hlocks hP hD hS hAe hsz (Nat.le_of_ble_eq_true rfl) (Nat.le_of_ble_eq_true rfl) (fun _ => 0) [] (by decide) rfl dL_note_16

set_option maxHeartbeats 4000000 in
set_option maxRecDepth 100000 in
theorem c1682_X10_isNote (l : Launch) (g : gG) (q1 q40 q41 q42 q43 : Nat) (x2 : Int32) (w4 w5 w6 w7 w8 w9 w12 w13 w14 w15 w16 w17 w18 w19 w20 w21 w22 w23 w24 w25 w26 w27 w29 w30 w31 w32 w33 w34 w35 w36 w37 w38 w39 : Value) (f44 : Nat → Int32) (f54 : Nat → Int32) (hf45 : f44 0 = 0) (hf46 : f44 49 = 0) (hf47 : f44 98 = 0) (hf48 : f44 147 = 0) (hf49 : f44 196 = 0) (hf50 : f44 245 = 0) (hf51 : f44 294 = 0) (hf52 : f44 343 = 0) (hf53 : f44 392 = 0) (hf55 : f54 0 = 0) (hf56 : f54 1 = 0) (hf57 : f54 2 = 0) (hf58 : f54 3 = 0) (hf59 : f54 4 = 0) (hf60 : f54 5 = 0) (hf61 : f54 6 = 0) (hf62 : f54 7 = 0) (h63 : (0 : Int32) ≤ x2) (sz : Nat) : Met l yX10_isNote [Cond.code yX10_isNote cX10_isNote 2 (some .boolean)] ({ frames := 4, cells := 0, slots := 0, locals := 89 } : Room) (va_Pc [.ref q1, .int x2] (PX g sz [(q43, .inl (g.2 0, 8, .inl f54)), (q42, .inl (g.2 0, 8, .inl f54)), (q41, .inl (g.2 0, 8, .inl f54)), (q40, .inl (g.2 0, 497, .inl f44)), (q1, .inr (12, [.ref q40, w4, w5, w6, w7, w8, w9, .ref q41, .ref q42, w12, w13, w14, w15, w16, w17, w18, w19, w20, w21, w22, w23, w24, w25, w26, w27, .ref q43, w29, w30, w31, w32, w33, w34, w35, w36, w37, w38, w39]))])) (QI g [(q43, .inl (g.2 0, 8, .inl f54)), (q42, .inl (g.2 0, 8, .inl f54)), (q41, .inl (g.2 0, 8, .inl f54)), (q40, .inl (g.2 0, 497, .inl f44)), (q1, .inr (12, [.ref q40, w4, w5, w6, w7, w8, w9, .ref q41, .ref q42, w12, w13, w14, w15, w16, w17, w18, w19, w20, w21, w22, w23, w24, w25, w26, w27, .ref q43, w29, w30, w31, w32, w33, w34, w35, w36, w37, w38, w39]))] sz 0 (fun _ => [(q42, .inl (g.2 0, 8, .inl f54)), (q41, .inl (g.2 0, 8, .inl f54)), (q40, .inl (g.2 0, 497, .inl f44)), (q43, .inl (g.2 0, 8, .inl (upd (upd (upd (upd (upd (upd (upd (upd f54 0 (-1)) 1 (-1)) 2 (-1)) 3 (-1)) 4 (-1)) 5 (-1)) 6 (-1)) 7 (-1)))), (q1, .inr (12, [.ref q40, w4, w5, w6, w7, w8, w9, .ref q41, .ref q42, w12, w13, w14, w15, w16, .int 0, w18, w19, w20, w21, w22, w23, w24, w25, w26, w27, .ref q43, w29, w30, w31, w32, w33, w34, w35, w36, w37, w38, w39]))])) 0 0 (va_A [(q43, .inl (g.2 0, 8, .inl f54)), (q42, .inl (g.2 0, 8, .inl f54)), (q41, .inl (g.2 0, 8, .inl f54)), (q40, .inl (g.2 0, 497, .inl f44)), (q1, .inr (12, [.ref q40, w4, w5, w6, w7, w8, w9, .ref q41, .ref q42, w12, w13, w14, w15, w16, w17, w18, w19, w20, w21, w22, w23, w24, w25, w26, w27, .ref q43, w29, w30, w31, w32, w33, w34, w35, w36, w37, w38, w39]))] sz) := by
  refine ofN (by decide) (Nat.le_of_ble_eq_true rfl) rfl ?_
  intro p e s m args below meth c A ls hAe hsz hx hb hml hr hlocks hin hown hE hP hD hA hS hl
  have hown : s.vm.findClass RX10 = some m.cls := hown
  refine lv_aload_n hx hb dX10_isNote_0 rfl (lv_at hl 0 rfl) ?_
  refine g_v (wr := []) (rV (rest := []) hx hb hml hown hE hP hD 4 rfl rfl (c1632_X10_layNotes l g q1 q40 q41 q42 q43 w4 w5 w6 w7 w8 w9 w12 w13 w14 w15 w16 w17 w18 w19 w20 w21 w22 w23 w24 w25 w26 w27 w29 w30 w31 w32 w33 w34 w35 w36 w37 w38 w39 f44 f54 (hf45) (hf46) (hf47) (hf48) (hf49) (hf50) (hf51) (hf52) (hf55) (hf56) (hf57) (hf58) (hf59) (hf60) (hf61) (hf62) (hf53) s.heap.size) (kV_X10_layNotes hE (e1543 hE) rfl rfl ⟨(Nat.le_of_ble_eq_true rfl), (Nat.le_of_ble_eq_true rfl)⟩) [0, 1, 2, 3, 4] rfl (by decide) rfl hl.1 rfl (lv_room (Nat.le_of_ble_eq_true rfl)) dX10_isNote_1 ⟨(Nat.le_of_ble_eq_true rfl), (Nat.le_of_ble_eq_true rfl)⟩) hP hD hS hA [0, 1, 2, 3, 4] [] rfl rfl (by decide) (by decide) (fun u1 H locs hP hD hS => ?_)
  have hP : va_P g.1 vwCl [(q42, .inl (g.2 0, 8, .inl f54)), (q41, .inl (g.2 0, 8, .inl f54)), (q40, .inl (g.2 0, 497, .inl f44)), (q43, .inl (g.2 0, 8, .inl (upd (upd (upd (upd (upd (upd (upd (upd f54 0 (-1)) 1 (-1)) 2 (-1)) 3 (-1)) 4 (-1)) 5 (-1)) 6 (-1)) 7 (-1)))), (q1, .inr (12, [.ref q40, w4, w5, w6, w7, w8, w9, .ref q41, .ref q42, w12, w13, w14, w15, w16, .int 0, w18, w19, w20, w21, w22, w23, w24, w25, w26, w27, .ref q43, w29, w30, w31, w32, w33, w34, w35, w36, w37, w38, w39]))] H := hP
  have hD : va_D A [(q42, .inl (g.2 0, 8, .inl f54)), (q41, .inl (g.2 0, 8, .inl f54)), (q40, .inl (g.2 0, 497, .inl f44)), (q43, .inl (g.2 0, 8, .inl (upd (upd (upd (upd (upd (upd (upd (upd f54 0 (-1)) 1 (-1)) 2 (-1)) 3 (-1)) 4 (-1)) 5 (-1)) 6 (-1)) 7 (-1)))), (q1, .inr (12, [.ref q40, w4, w5, w6, w7, w8, w9, .ref q41, .ref q42, w12, w13, w14, w15, w16, .int 0, w18, w19, w20, w21, w22, w23, w24, w25, w26, w27, .ref q43, w29, w30, w31, w32, w33, w34, w35, w36, w37, w38, w39]))] := hD
  refine lv_iload_n hx hb dX10_isNote_4 rfl (lv_at hl 1 rfl) ?_
  refine lv_iconst (v := 0) hx hb dX10_isNote_5 (by decide) ?_
  refine lv_aload_n hx hb dX10_isNote_6 rfl (lv_at hl 0 rfl) ?_
  refine gf_RX10_176 hx hb hown hE hP 4 rfl rfl dX10_isNote_7 ?_
  refine lv_iconst (v := 1) hx hb dX10_isNote_10 (by decide) ?_
  refine x_isub (v := (-1)) hx hb dX10_isNote_11 (by decide) ?_
  refine g0_i (rS (rest := []) hx hb hml hown hE hP hD (c649_X10_in l g x2 h63 H.size) (kS_X10_in hE (e1431 hE) rfl rfl ⟨(Nat.le_of_ble_eq_true rfl), (Nat.le_of_ble_eq_true rfl)⟩) [] rfl (by decide) rfl hl.1 rfl (lv_room (Nat.le_of_ble_eq_true rfl)) dX10_isNote_12 ⟨(Nat.le_of_ble_eq_true rfl), (Nat.le_of_ble_eq_true rfl)⟩) hP hD hS hA (fun u9 H locs hP hS => ?_)
  exact x_zret hx hb hr rfl rfl hlocks hP hD hS hAe hsz (Nat.le_of_ble_eq_true rfl) (Nat.le_of_ble_eq_true rfl) (fun _ => 0) [0, 1, 2, 3, 4] (by decide) rfl dX10_isNote_15

set_option maxHeartbeats 4000000 in
set_option maxRecDepth 100000 in
theorem c1683_X10_note (l : Launch) (g : gG) (q1 q41 q42 q43 q44 : Nat) (x2 x3 : Int32) (w5 w6 w7 w8 w9 w10 w13 w14 w15 w16 w17 w18 w19 w20 w21 w22 w23 w24 w25 w26 w27 w28 w30 w31 w32 w33 w34 w35 w36 w37 w38 w39 w40 : Value) (f45 : Nat → Int32) (f55 : Nat → Int32) (hf46 : f45 0 = 0) (hf47 : f45 49 = 0) (hf48 : f45 98 = 0) (hf49 : f45 147 = 0) (hf50 : f45 196 = 0) (hf51 : f45 245 = 0) (hf52 : f45 294 = 0) (hf53 : f45 343 = 0) (hf54 : f45 392 = 0) (hf56 : f55 0 = 0) (hf57 : f55 1 = 0) (hf58 : f55 2 = 0) (hf59 : f55 3 = 0) (hf60 : f55 4 = 0) (hf61 : f55 5 = 0) (hf62 : f55 6 = 0) (hf63 : f55 7 = 0) (h64 : (0 : Int32) ≤ x2) (sz : Nat) : Met l yX10_note [Cond.code yX10_note cX10_note 3 (some .int)] ({ frames := 5, cells := 0, slots := 0, locals := 110 } : Room) (va_Pc [.ref q1, .int x2, .int x3] (PX g sz [(q44, .inl (g.2 0, 8, .inl f55)), (q43, .inl (g.2 0, 8, .inl f55)), (q42, .inl (g.2 0, 8, .inl f55)), (q41, .inl (g.2 0, 497, .inl f45)), (q1, .inr (12, [.ref q41, w5, w6, w7, w8, w9, w10, .ref q42, .ref q43, w13, w14, w15, w16, w17, w18, w19, w20, w21, w22, w23, w24, w25, w26, w27, w28, .ref q44, w30, w31, w32, w33, w34, w35, w36, w37, w38, w39, w40]))])) (QI g [(q44, .inl (g.2 0, 8, .inl f55)), (q43, .inl (g.2 0, 8, .inl f55)), (q42, .inl (g.2 0, 8, .inl f55)), (q41, .inl (g.2 0, 497, .inl f45)), (q1, .inr (12, [.ref q41, w5, w6, w7, w8, w9, w10, .ref q42, .ref q43, w13, w14, w15, w16, w17, w18, w19, w20, w21, w22, w23, w24, w25, w26, w27, w28, .ref q44, w30, w31, w32, w33, w34, w35, w36, w37, w38, w39, w40]))] sz 0 (fun _ => [(q1, .inr (12, [.ref q41, w5, w6, w7, w8, w9, .int 1, .ref q42, .ref q43, w13, w14, w15, w16, w17, .int 0, w19, w20, w21, w22, w23, w24, w25, w26, w27, w28, .ref q44, w30, w31, w32, w33, w34, w35, w36, w37, w38, w39, w40]))])) 0 0 (va_A [(q44, .inl (g.2 0, 8, .inl f55)), (q43, .inl (g.2 0, 8, .inl f55)), (q42, .inl (g.2 0, 8, .inl f55)), (q41, .inl (g.2 0, 497, .inl f45)), (q1, .inr (12, [.ref q41, w5, w6, w7, w8, w9, w10, .ref q42, .ref q43, w13, w14, w15, w16, w17, w18, w19, w20, w21, w22, w23, w24, w25, w26, w27, w28, .ref q44, w30, w31, w32, w33, w34, w35, w36, w37, w38, w39, w40]))] sz) := by
  refine ofN (by decide) (Nat.le_of_ble_eq_true rfl) rfl ?_
  intro p e s m args below meth c A ls hAe hsz hx hb hml hr hlocks hin hown hE hP hD hA hS hl
  have hown : s.vm.findClass RX10 = some m.cls := hown
  refine lv_aload_n hx hb dX10_note_0 rfl (lv_at hl 0 rfl) ?_
  refine lv_aload_n hx hb dX10_note_1 rfl (lv_at hl 0 rfl) ?_
  refine lv_iload_n hx hb dX10_note_2 rfl (lv_at hl 1 rfl) ?_
  refine g_i (wr := []) (rV (rest := [.ref q1]) hx hb hml hown hE hP hD 4 rfl rfl (c1682_X10_isNote l g q1 q41 q42 q43 q44 x2 w5 w6 w7 w8 w9 w10 w13 w14 w15 w16 w17 w18 w19 w20 w21 w22 w23 w24 w25 w26 w27 w28 w30 w31 w32 w33 w34 w35 w36 w37 w38 w39 w40 f45 f55 (hf46) (hf47) (hf48) (hf49) (hf50) (hf51) (hf52) (hf53) (hf54) (hf56) (hf57) (hf58) (hf59) (hf60) (hf61) (hf62) (hf63) h64 s.heap.size) (kV_X10_isNote hE (e1596 hE) rfl rfl ⟨(Nat.le_of_ble_eq_true rfl), (Nat.le_of_ble_eq_true rfl)⟩) [0, 1, 2, 3, 4] rfl (by decide) rfl hl.1 rfl (lv_room (Nat.le_of_ble_eq_true rfl)) dX10_note_3 ⟨(Nat.le_of_ble_eq_true rfl), (Nat.le_of_ble_eq_true rfl)⟩) hP hD hS hA [0, 1, 2, 3, 4] [] rfl rfl (by decide) (by decide) (fun u1 H locs hP hD hS => ?_)
  have hP : va_P g.1 vwCl [(q43, .inl (g.2 0, 8, .inl f55)), (q42, .inl (g.2 0, 8, .inl f55)), (q41, .inl (g.2 0, 497, .inl f45)), (q44, .inl (g.2 0, 8, .inl (upd (upd (upd (upd (upd (upd (upd (upd f55 0 (-1)) 1 (-1)) 2 (-1)) 3 (-1)) 4 (-1)) 5 (-1)) 6 (-1)) 7 (-1)))), (q1, .inr (12, [.ref q41, w5, w6, w7, w8, w9, w10, .ref q42, .ref q43, w13, w14, w15, w16, w17, .int 0, w19, w20, w21, w22, w23, w24, w25, w26, w27, w28, .ref q44, w30, w31, w32, w33, w34, w35, w36, w37, w38, w39, w40]))] H := hP
  have hD : va_D A [(q43, .inl (g.2 0, 8, .inl f55)), (q42, .inl (g.2 0, 8, .inl f55)), (q41, .inl (g.2 0, 497, .inl f45)), (q44, .inl (g.2 0, 8, .inl (upd (upd (upd (upd (upd (upd (upd (upd f55 0 (-1)) 1 (-1)) 2 (-1)) 3 (-1)) 4 (-1)) 5 (-1)) 6 (-1)) 7 (-1)))), (q1, .inr (12, [.ref q41, w5, w6, w7, w8, w9, w10, .ref q42, .ref q43, w13, w14, w15, w16, w17, .int 0, w19, w20, w21, w22, w23, w24, w25, w26, w27, w28, .ref q44, w30, w31, w32, w33, w34, w35, w36, w37, w38, w39, w40]))] := hD
  refine lv_if_ne (tgt := 13) hx hb dX10_note_6 (by decide) (fun h => absurd h (by decide)) (fun _ => ?_)
  refine lv_iconst (v := 1) hx hb dX10_note_9 (by decide) ?_
  refine lv_goto (tgt := 28) hx hb dX10_note_10 (by decide) ?_
  refine pf_RX10_86 (ws' := [(q43, .inl (g.2 0, 8, .inl f55)), (q42, .inl (g.2 0, 8, .inl f55)), (q41, .inl (g.2 0, 497, .inl f45)), (q44, .inl (g.2 0, 8, .inl (upd (upd (upd (upd (upd (upd (upd (upd f55 0 (-1)) 1 (-1)) 2 (-1)) 3 (-1)) 4 (-1)) 5 (-1)) 6 (-1)) 7 (-1)))), (q1, .inr (12, [.ref q41, w5, w6, w7, w8, w9, .int 1, .ref q42, .ref q43, w13, w14, w15, w16, w17, .int 0, w19, w20, w21, w22, w23, w24, w25, w26, w27, w28, .ref q44, w30, w31, w32, w33, w34, w35, w36, w37, w38, w39, w40]))]) hx hb hown hE hP hD hS 4 rfl rfl rfl (Nat.le_of_ble_eq_true rfl) dX10_note_28 rfl (fun H locs hP hD hS => ?_)
  refine lv_aload_n hx hb dX10_note_31 rfl (lv_at hl 0 rfl) ?_
  refine gf_RX10_86 hx hb hown hE hP 4 rfl rfl dX10_note_32 ?_
  refine lv_if_le (tgt := 40) hx hb dX10_note_35 (by decide) (fun h => absurd h (by decide)) (fun _ => ?_)
  refine lv_iconst (v := 0) hx hb dX10_note_38 (by decide) ?_
  exact x_zret hx hb hr rfl rfl hlocks hP hD hS hAe hsz (Nat.le_of_ble_eq_true rfl) (Nat.le_of_ble_eq_true rfl) (fun _ => 0) [4] (by decide) rfl dX10_note_39

set_option maxHeartbeats 4000000 in
set_option maxRecDepth 100000 in
theorem c1684_X9_isCut (l : Launch) (g : gG) (hlx : l.stackTraces = false) (q1 q14 q15 q19 q22 q33 q34 q35 q36 q46 : Nat) (x2 : Int32) (w4 w6 w7 w8 w9 w10 w12 w13 w18 w23 w25 w29 w30 w31 w32 w37 w38 w39 w40 w42 w43 : Value) (f20 : Nat → Option Nat) (f44 : Nat → Int64) (f47 : Nat → Int32) (hf21 : f20 0 = some q22) (h48 : x2 < 0) (sz : Nat) : vx_Met l yX9_isCut [Cond.code yX9_isCut cX9_isCut 3 (some .boolean)] ({ frames := 7, cells := 1, slots := 6, locals := 121 } : Room) (va_Pc [.ref q1, .int x2] (PZ g sz [(q33, .inl (g.2 0, 300, .inl f47)), (q34, .inl (g.2 0, 8, .inl f47)), (q46, .inl (g.2 1, 300, .inr (.inl f44))), (q36, .inr (3, [.ref q46])), (q35, .inl (g.2 1, 300, .inr (.inl f44))), (q22, .inr (8, [w37, w38, w39, w40, .int 0, w42, w43])), (q15, .inr (7, [w23, .ref q33, w25, .ref q34, .ref q35, .ref q36, w29, w30, w31, w32])), (q19, .inl (g.2 3, 10, .inr (.inr (.inr (.inr f20))))), (q14, .inr (10, [.ref q19, .int 0, w18])), (q1, .inr (11, [.ref q14, w4, .ref q15, w6, w7, w8, w9, w10, .int 0, w12, w13]))])) NI (XW g [(q33, .inl (g.2 0, 300, .inl f47)), (q34, .inl (g.2 0, 8, .inl f47)), (q46, .inl (g.2 1, 300, .inr (.inl f44))), (q36, .inr (3, [.ref q46])), (q35, .inl (g.2 1, 300, .inr (.inl f44))), (q22, .inr (8, [w37, w38, w39, w40, .int 0, w42, w43])), (q15, .inr (7, [w23, .ref q33, w25, .ref q34, .ref q35, .ref q36, w29, w30, w31, w32])), (q19, .inl (g.2 3, 10, .inr (.inr (.inr (.inr f20))))), (q14, .inr (10, [.ref q19, .int 0, w18])), (q1, .inr (11, [.ref q14, w4, .ref q15, w6, w7, w8, w9, w10, .int 0, w12, w13]))] sz "java/lang/IndexOutOfBoundsException" [(q1, .inr (11, [.ref q14, w4, .ref q15, w6, w7, w8, w9, w10, .int 1, w12, w13])), (q19, .inl (g.2 3, 10, .inr (.inr (.inr (.inr f20))))), (q14, .inr (10, [.ref q19, .int 0, w18])), (q22, .inr (8, [w37, w38, w39, w40, .int 0, w42, w43])), (q34, .inl (g.2 0, 8, .inl (fillF 8 (-1) f47))), (q33, .inl (g.2 0, 300, .inl (fillF 300 (-1) f47))), (q46, .inl (g.2 1, 300, .inr (.inl f44))), (q36, .inr (3, [.ref q46])), (q35, .inl (g.2 1, 300, .inr (.inl f44))), (q15, .inr (7, [w23, .ref q33, w25, .ref q34, .ref q35, .ref q36, .int 0, .int 0, .int 0, .int 0]))]) 1 6 (va_A [(q33, .inl (g.2 0, 300, .inl f47)), (q34, .inl (g.2 0, 8, .inl f47)), (q46, .inl (g.2 1, 300, .inr (.inl f44))), (q36, .inr (3, [.ref q46])), (q35, .inl (g.2 1, 300, .inr (.inl f44))), (q22, .inr (8, [w37, w38, w39, w40, .int 0, w42, w43])), (q15, .inr (7, [w23, .ref q33, w25, .ref q34, .ref q35, .ref q36, w29, w30, w31, w32])), (q19, .inl (g.2 3, 10, .inr (.inr (.inr (.inr f20))))), (q14, .inr (10, [.ref q19, .int 0, w18])), (q1, .inr (11, [.ref q14, w4, .ref q15, w6, w7, w8, w9, w10, .int 0, w12, w13]))] sz) := by
  refine ofX (by decide) (Nat.le_of_ble_eq_true rfl) rfl ?_
  intro p e s m args below meth c A ls hAe hsz hx hb hml hr hlocks hin hown hE hP hD hA hS hl hex hz
  have hown : s.vm.findClass RX9 = some m.cls := hown
  refine lv_aload_n hx hb dX9_isCut_0 rfl (lv_at hl 0 rfl) ?_
  refine g_r (wr := []) (rV (rest := []) hx hb hml hown hE hP hD 9 rfl rfl (c1638_X9_upToDateScore l g q1 q14 q19 q22 q15 q36 q35 q46 q34 q33 w4 w6 w7 w8 w9 w10 w12 w13 w18 w23 w25 w29 w30 w31 w32 w37 w38 w39 w40 w42 w43 f20 f44 f47 (hf21) s.heap.size) (kV_X9_upToDateScore hE (e318 hE) rfl rfl ⟨(Nat.le_of_ble_eq_true rfl), (Nat.le_of_ble_eq_true rfl)⟩) [0, 1, 2, 3, 4, 5, 6, 7, 8, 9] rfl (by decide) rfl hl.1 rfl (lv_room (Nat.le_of_ble_eq_true rfl)) dX9_isCut_1 ⟨(Nat.le_of_ble_eq_true rfl), (Nat.le_of_ble_eq_true rfl)⟩) hP hD hS hA [0, 1, 2, 3, 4, 5, 6, 7, 8, 9] [] rfl rfl (by decide) (by decide) (fun u1 H locs hP hD hS => ?_)
  have hP : va_P g.1 vwCl [(q1, .inr (11, [.ref q14, w4, .ref q15, w6, w7, w8, w9, w10, .int 1, w12, w13])), (q19, .inl (g.2 3, 10, .inr (.inr (.inr (.inr f20))))), (q14, .inr (10, [.ref q19, .int 0, w18])), (q22, .inr (8, [w37, w38, w39, w40, .int 0, w42, w43])), (q15, .inr (7, [w23, .ref q33, w25, .ref q34, .ref q35, .ref q36, .int 0, .int 0, .int 0, .int 0])), (q34, .inl (g.2 0, 8, .inl (fillF 8 (-1) f47))), (q33, .inl (g.2 0, 300, .inl (fillF 300 (-1) f47))), (q46, .inl (g.2 1, 300, .inr (.inl f44))), (q36, .inr (3, [.ref q46])), (q35, .inl (g.2 1, 300, .inr (.inl f44)))] H := hP
  have hD : va_D A [(q1, .inr (11, [.ref q14, w4, .ref q15, w6, w7, w8, w9, w10, .int 1, w12, w13])), (q19, .inl (g.2 3, 10, .inr (.inr (.inr (.inr f20))))), (q14, .inr (10, [.ref q19, .int 0, w18])), (q22, .inr (8, [w37, w38, w39, w40, .int 0, w42, w43])), (q15, .inr (7, [w23, .ref q33, w25, .ref q34, .ref q35, .ref q36, .int 0, .int 0, .int 0, .int 0])), (q34, .inl (g.2 0, 8, .inl (fillF 8 (-1) f47))), (q33, .inl (g.2 0, 300, .inl (fillF 300 (-1) f47))), (q46, .inl (g.2 1, 300, .inr (.inl f44))), (q36, .inr (3, [.ref q46])), (q35, .inl (g.2 1, 300, .inr (.inl f44)))] := hD
  refine lv_astore_n (lv' := [(2, .ref q15), (0, .ref q1), (1, .int x2)]) hx hb dX9_isCut_4 rfl hl (by decide) rfl (fun ls hl => ?_)
  refine lv_iload_n hx hb dX9_isCut_5 rfl (lv_at hl 2 rfl) ?_
  refine lv_aload_n hx hb dX9_isCut_6 rfl (lv_at hl 0 rfl) ?_
  refine g_i (wr := [(q1, .inr (11, [.ref q14, w4, .ref q15, w6, w7, w8, w9, w10, .int 1, w12, w13])), (q19, .inl (g.2 3, 10, .inr (.inr (.inr (.inr f20))))), (q14, .inr (10, [.ref q19, .int 0, w18])), (q22, .inr (8, [w37, w38, w39, w40, .int 0, w42, w43])), (q34, .inl (g.2 0, 8, .inl (fillF 8 (-1) f47))), (q33, .inl (g.2 0, 300, .inl (fillF 300 (-1) f47))), (q46, .inl (g.2 1, 300, .inr (.inl f44))), (q36, .inr (3, [.ref q46])), (q35, .inl (g.2 1, 300, .inr (.inl f44)))]) (rV (rest := [.int x2]) hx hb hml hown hE hP hD 4 rfl rfl (c1639_X5_noteCount l g q15 w23 (.ref q33) w25 (.ref q34) (.ref q35) (.ref q36) (.int 0) (.int 0) (.int 0) H.size) (kV_X5_noteCount hE (e856 hE) rfl rfl ⟨(Nat.le_of_ble_eq_true rfl), (Nat.le_of_ble_eq_true rfl)⟩) [4] rfl (by decide) rfl hl.1 rfl (lv_room (Nat.le_of_ble_eq_true rfl)) dX9_isCut_7 ⟨(Nat.le_of_ble_eq_true rfl), (Nat.le_of_ble_eq_true rfl)⟩) hP hD hS hA [4] [0, 1, 2, 3, 5, 6, 7, 8, 9] rfl rfl (by decide) (by decide) (fun u2 H locs hP hD hS => ?_)
  have hP : va_P g.1 vwCl [(q1, .inr (11, [.ref q14, w4, .ref q15, w6, w7, w8, w9, w10, .int 1, w12, w13])), (q19, .inl (g.2 3, 10, .inr (.inr (.inr (.inr f20))))), (q14, .inr (10, [.ref q19, .int 0, w18])), (q22, .inr (8, [w37, w38, w39, w40, .int 0, w42, w43])), (q34, .inl (g.2 0, 8, .inl (fillF 8 (-1) f47))), (q33, .inl (g.2 0, 300, .inl (fillF 300 (-1) f47))), (q46, .inl (g.2 1, 300, .inr (.inl f44))), (q36, .inr (3, [.ref q46])), (q35, .inl (g.2 1, 300, .inr (.inl f44))), (q15, .inr (7, [w23, .ref q33, w25, .ref q34, .ref q35, .ref q36, .int 0, .int 0, .int 0, .int 0]))] H := hP
  have hD : va_D A [(q1, .inr (11, [.ref q14, w4, .ref q15, w6, w7, w8, w9, w10, .int 1, w12, w13])), (q19, .inl (g.2 3, 10, .inr (.inr (.inr (.inr f20))))), (q14, .inr (10, [.ref q19, .int 0, w18])), (q22, .inr (8, [w37, w38, w39, w40, .int 0, w42, w43])), (q34, .inl (g.2 0, 8, .inl (fillF 8 (-1) f47))), (q33, .inl (g.2 0, 300, .inl (fillF 300 (-1) f47))), (q46, .inl (g.2 1, 300, .inr (.inl f44))), (q36, .inr (3, [.ref q46])), (q35, .inl (g.2 1, 300, .inr (.inl f44))), (q15, .inr (7, [w23, .ref q33, w25, .ref q34, .ref q35, .ref q36, .int 0, .int 0, .int 0, .int 0]))] := hD
  refine gx_v (wr := [(q1, .inr (11, [.ref q14, w4, .ref q15, w6, w7, w8, w9, w10, .int 1, w12, w13])), (q19, .inl (g.2 3, 10, .inr (.inr (.inr (.inr f20))))), (q14, .inr (10, [.ref q19, .int 0, w18])), (q22, .inr (8, [w37, w38, w39, w40, .int 0, w42, w43])), (q34, .inl (g.2 0, 8, .inl (fillF 8 (-1) f47))), (q33, .inl (g.2 0, 300, .inl (fillF 300 (-1) f47))), (q46, .inl (g.2 1, 300, .inr (.inl f44))), (q36, .inr (3, [.ref q46])), (q35, .inl (g.2 1, 300, .inr (.inl f44))), (q15, .inr (7, [w23, .ref q33, w25, .ref q34, .ref q35, .ref q36, .int 0, .int 0, .int 0, .int 0]))]) (rSx (rest := []) hx hb hml hown hE hP hD hS hA hz (c1164_X9_requireIndex l g hlx x2 h48 H.size) (kS_X9_requireIndex hE (e620 hE) rfl rfl ⟨(Nat.le_of_ble_eq_true rfl), (Nat.le_of_ble_eq_true rfl)⟩) [] rfl (by decide) rfl hl.1 rfl (lv_room (Nat.le_of_ble_eq_true rfl)) dX9_isCut_10 ⟨(Nat.le_of_ble_eq_true rfl), (Nat.le_of_ble_eq_true rfl)⟩) hP hD hS hA [] [0, 1, 2, 3, 4, 5, 6, 7, 8, 9] rfl rfl (by decide) (by decide) (fun ce9 q9 H locs hP hD hS hq1 hq2 hq3 => ?_)
  exact x_out hex hlocks hq1 hq2 hq3 hP hD hS hAe hsz (Nat.le_of_ble_eq_true rfl) (Nat.le_of_ble_eq_true rfl) [0, 1, 2, 3, 4, 5, 6, 7, 8, 9] (by decide) rfl

set_option maxHeartbeats 4000000 in
set_option maxRecDepth 100000 in
theorem c1685_L_isCut (l : Launch) (g : gG) (hlx : l.stackTraces = false) (q1 q3 q15 q16 q20 q23 q34 q35 q36 q37 q47 : Nat) (x2 : Int32) (w5 w7 w8 w9 w10 w11 w13 w14 w19 w24 w26 w30 w31 w32 w33 w38 w39 w40 w41 w43 w44 : Value) (f21 : Nat → Option Nat) (f45 : Nat → Int64) (f48 : Nat → Int32) (hf22 : f21 0 = some q23) (h49 : x2 < 0) (sz : Nat) : Met l yL_isCut [Cond.codeWith yL_isCut cL_isCut 4 (some .int) [(0, 16, 19, 13)]] ({ frames := 8, cells := 1, slots := 6, locals := 143 } : Room) (va_Pc [.ref q1, .int x2, .ref q3] (PZ g sz [(q34, .inl (g.2 0, 300, .inl f48)), (q35, .inl (g.2 0, 8, .inl f48)), (q47, .inl (g.2 1, 300, .inr (.inl f45))), (q37, .inr (3, [.ref q47])), (q36, .inl (g.2 1, 300, .inr (.inl f45))), (q23, .inr (8, [w38, w39, w40, w41, .int 0, w43, w44])), (q16, .inr (7, [w24, .ref q34, w26, .ref q35, .ref q36, .ref q37, w30, w31, w32, w33])), (q20, .inl (g.2 3, 10, .inr (.inr (.inr (.inr f21))))), (q15, .inr (10, [.ref q20, .int 0, w19])), (q1, .inr (11, [.ref q15, w5, .ref q16, w7, w8, w9, w10, w11, .int 0, w13, w14]))])) (QI g [(q34, .inl (g.2 0, 300, .inl f48)), (q35, .inl (g.2 0, 8, .inl f48)), (q47, .inl (g.2 1, 300, .inr (.inl f45))), (q37, .inr (3, [.ref q47])), (q36, .inl (g.2 1, 300, .inr (.inl f45))), (q23, .inr (8, [w38, w39, w40, w41, .int 0, w43, w44])), (q16, .inr (7, [w24, .ref q34, w26, .ref q35, .ref q36, .ref q37, w30, w31, w32, w33])), (q20, .inl (g.2 3, 10, .inr (.inr (.inr (.inr f21))))), (q15, .inr (10, [.ref q20, .int 0, w19])), (q1, .inr (11, [.ref q15, w5, .ref q16, w7, w8, w9, w10, w11, .int 0, w13, w14]))] sz 1 (fun _ => [])) 1 6 (va_A [(q34, .inl (g.2 0, 300, .inl f48)), (q35, .inl (g.2 0, 8, .inl f48)), (q47, .inl (g.2 1, 300, .inr (.inl f45))), (q37, .inr (3, [.ref q47])), (q36, .inl (g.2 1, 300, .inr (.inl f45))), (q23, .inr (8, [w38, w39, w40, w41, .int 0, w43, w44])), (q16, .inr (7, [w24, .ref q34, w26, .ref q35, .ref q36, .ref q37, w30, w31, w32, w33])), (q20, .inl (g.2 3, 10, .inr (.inr (.inr (.inr f21))))), (q15, .inr (10, [.ref q20, .int 0, w19])), (q1, .inr (11, [.ref q15, w5, .ref q16, w7, w8, w9, w10, w11, .int 0, w13, w14]))] sz) := by
  refine ofH (by decide) (Nat.le_of_ble_eq_true rfl) rfl ?_
  intro p e s m args below meth c A ls hAe hsz hx hb hml hr hlocks hin hown hE hP hD hA hS hl htb hz
  have hown : s.vm.findClass RL = some m.cls := hown
  refine lv_aload_n hx hb dL_isCut_0 rfl (lv_at hl 2 rfl) ?_
  refine lv_iconst (v := 0) hx hb dL_isCut_1 (by decide) ?_
  refine lv_aload_n hx hb dL_isCut_2 rfl (lv_at hl 0 rfl) ?_
  refine lv_iload_n hx hb dL_isCut_3 rfl (lv_at hl 1 rfl) ?_
  refine gx_i (wr := []) (rVx (rest := [.int 0, .ref q3]) hx hb hml hown hE hP hD hS hA hz 9 rfl rfl (c1684_X9_isCut l g hlx q1 q15 q16 q20 q23 q34 q35 q36 q37 q47 x2 w5 w7 w8 w9 w10 w11 w13 w14 w19 w24 w26 w30 w31 w32 w33 w38 w39 w40 w41 w43 w44 f21 f45 f48 (hf22) h49 s.heap.size) (kV_X9_isCut hE (e885 hE) rfl rfl ⟨(Nat.le_of_ble_eq_true rfl), (Nat.le_of_ble_eq_true rfl)⟩) [0, 1, 2, 3, 4, 5, 6, 7, 8, 9] rfl (by decide) rfl hl.1 rfl (lv_room (Nat.le_of_ble_eq_true rfl)) dL_isCut_4 ⟨(Nat.le_of_ble_eq_true rfl), (Nat.le_of_ble_eq_true rfl)⟩) hP hD hS hA [0, 1, 2, 3, 4, 5, 6, 7, 8, 9] [] rfl rfl (by decide) (by decide) (fun ce9 q9 H locs hP hD hS hq1 hq2 hq3 => ?_)
  have hP : va_P g.1 vwCl [(q1, .inr (11, [.ref q15, w5, .ref q16, w7, w8, w9, w10, w11, .int 1, w13, w14])), (q20, .inl (g.2 3, 10, .inr (.inr (.inr (.inr f21))))), (q15, .inr (10, [.ref q20, .int 0, w19])), (q23, .inr (8, [w38, w39, w40, w41, .int 0, w43, w44])), (q35, .inl (g.2 0, 8, .inl (fillF 8 (-1) f48))), (q34, .inl (g.2 0, 300, .inl (fillF 300 (-1) f48))), (q47, .inl (g.2 1, 300, .inr (.inl f45))), (q37, .inr (3, [.ref q47])), (q36, .inl (g.2 1, 300, .inr (.inl f45))), (q16, .inr (7, [w24, .ref q34, w26, .ref q35, .ref q36, .ref q37, .int 0, .int 0, .int 0, .int 0]))] H := hP
  have hD : va_D A [(q1, .inr (11, [.ref q15, w5, .ref q16, w7, w8, w9, w10, w11, .int 1, w13, w14])), (q20, .inl (g.2 3, 10, .inr (.inr (.inr (.inr f21))))), (q15, .inr (10, [.ref q20, .int 0, w19])), (q23, .inr (8, [w38, w39, w40, w41, .int 0, w43, w44])), (q35, .inl (g.2 0, 8, .inl (fillF 8 (-1) f48))), (q34, .inl (g.2 0, 300, .inl (fillF 300 (-1) f48))), (q47, .inl (g.2 1, 300, .inr (.inl f45))), (q37, .inr (3, [.ref q47])), (q36, .inl (g.2 1, 300, .inr (.inl f45))), (q16, .inr (7, [w24, .ref q34, w26, .ref q35, .ref q36, .ref q37, .int 0, .int 0, .int 0, .int 0]))] := hD
  refine x_catch (name := "java/lang/IndexOutOfBoundsException") (hh := [(0, 16, 19, 13)]) (tgt := 19) hown htb [] ⟨0, 16, 19, 13⟩ [] rfl (fun _ h => nomatch h) rfl (by decide) (e532 hE) (e625 hE) hq1 hq2 hq3 rfl ?_
  refine lv_astore_n (lv' := [(3, .ref q9), (0, .ref q1), (1, .int x2), (2, .ref q3)]) hx hb dL_isCut_19 rfl hl (by decide) rfl (fun ls hl => ?_)
  refine lv_iconst (v := 1) hx hb dL_isCut_20 (by decide) ?_
  exact x_zret hx hb hr rfl rfl hlocks hP hD hS hAe hsz (Nat.le_of_ble_eq_true rfl) (Nat.le_of_ble_eq_true rfl) (fun _ => 0) [] (by decide) rfl dL_isCut_21

set_option maxHeartbeats 4000000 in
set_option maxRecDepth 100000 in
theorem c1686_X10_isCut (l : Launch) (g : gG) (q1 q40 q41 q42 q43 : Nat) (x2 : Int32) (w4 w5 w6 w7 w8 w9 w12 w13 w14 w15 w16 w17 w18 w19 w20 w21 w22 w23 w24 w25 w26 w27 w29 w30 w31 w32 w33 w34 w35 w36 w37 w38 w39 : Value) (f44 : Nat → Int32) (f54 : Nat → Int32) (hf45 : f44 0 = 0) (hf46 : f44 49 = 0) (hf47 : f44 98 = 0) (hf48 : f44 147 = 0) (hf49 : f44 196 = 0) (hf50 : f44 245 = 0) (hf51 : f44 294 = 0) (hf52 : f44 343 = 0) (hf53 : f44 392 = 0) (hf55 : f54 0 = 0) (hf56 : f54 1 = 0) (hf57 : f54 2 = 0) (hf58 : f54 3 = 0) (hf59 : f54 4 = 0) (hf60 : f54 5 = 0) (hf61 : f54 6 = 0) (hf62 : f54 7 = 0) (h63 : x2 < 0) (sz : Nat) : Met l yX10_isCut [Cond.code yX10_isCut cX10_isCut 2 (some .boolean)] ({ frames := 5, cells := 0, slots := 0, locals := 110 } : Room) (va_Pc [.ref q1, .int x2] (PX g sz [(q43, .inl (g.2 0, 8, .inl f54)), (q42, .inl (g.2 0, 8, .inl f54)), (q41, .inl (g.2 0, 8, .inl f54)), (q40, .inl (g.2 0, 497, .inl f44)), (q1, .inr (12, [.ref q40, w4, w5, w6, w7, w8, w9, .ref q41, .ref q42, w12, w13, w14, w15, w16, w17, w18, w19, w20, w21, w22, w23, w24, w25, w26, w27, .ref q43, w29, w30, w31, w32, w33, w34, w35, w36, w37, w38, w39]))])) (QI g [(q43, .inl (g.2 0, 8, .inl f54)), (q42, .inl (g.2 0, 8, .inl f54)), (q41, .inl (g.2 0, 8, .inl f54)), (q40, .inl (g.2 0, 497, .inl f44)), (q1, .inr (12, [.ref q40, w4, w5, w6, w7, w8, w9, .ref q41, .ref q42, w12, w13, w14, w15, w16, w17, w18, w19, w20, w21, w22, w23, w24, w25, w26, w27, .ref q43, w29, w30, w31, w32, w33, w34, w35, w36, w37, w38, w39]))] sz 0 (fun _ => [(q1, .inr (12, [.ref q40, w4, w5, w6, w7, w8, .int 1, .ref q41, .ref q42, w12, w13, w14, w15, w16, .int 0, w18, w19, w20, w21, w22, w23, w24, w25, w26, w27, .ref q43, w29, w30, w31, w32, w33, w34, w35, w36, w37, w38, w39]))])) 0 0 (va_A [(q43, .inl (g.2 0, 8, .inl f54)), (q42, .inl (g.2 0, 8, .inl f54)), (q41, .inl (g.2 0, 8, .inl f54)), (q40, .inl (g.2 0, 497, .inl f44)), (q1, .inr (12, [.ref q40, w4, w5, w6, w7, w8, w9, .ref q41, .ref q42, w12, w13, w14, w15, w16, w17, w18, w19, w20, w21, w22, w23, w24, w25, w26, w27, .ref q43, w29, w30, w31, w32, w33, w34, w35, w36, w37, w38, w39]))] sz) := by
  refine ofN (by decide) (Nat.le_of_ble_eq_true rfl) rfl ?_
  intro p e s m args below meth c A ls hAe hsz hx hb hml hr hlocks hin hown hE hP hD hA hS hl
  have hown : s.vm.findClass RX10 = some m.cls := hown
  refine lv_aload_n hx hb dX10_isCut_0 rfl (lv_at hl 0 rfl) ?_
  refine lv_aload_n hx hb dX10_isCut_1 rfl (lv_at hl 0 rfl) ?_
  refine lv_iload_n hx hb dX10_isCut_2 rfl (lv_at hl 1 rfl) ?_
  refine g_i (wr := []) (rV (rest := [.ref q1]) hx hb hml hown hE hP hD 4 rfl rfl (c1678_X10_isNote l g q1 q40 q41 q42 q43 x2 w4 w5 w6 w7 w8 w9 w12 w13 w14 w15 w16 w17 w18 w19 w20 w21 w22 w23 w24 w25 w26 w27 w29 w30 w31 w32 w33 w34 w35 w36 w37 w38 w39 f44 f54 (hf45) (hf46) (hf47) (hf48) (hf49) (hf50) (hf51) (hf52) (hf53) (hf55) (hf56) (hf57) (hf58) (hf59) (hf60) (hf61) (hf62) h63 s.heap.size) (kV_X10_isNote hE (e1596 hE) rfl rfl ⟨(Nat.le_of_ble_eq_true rfl), (Nat.le_of_ble_eq_true rfl)⟩) [0, 1, 2, 3, 4] rfl (by decide) rfl hl.1 rfl (lv_room (Nat.le_of_ble_eq_true rfl)) dX10_isCut_3 ⟨(Nat.le_of_ble_eq_true rfl), (Nat.le_of_ble_eq_true rfl)⟩) hP hD hS hA [0, 1, 2, 3, 4] [] rfl rfl (by decide) (by decide) (fun u1 H locs hP hD hS => ?_)
  have hP : va_P g.1 vwCl [(q42, .inl (g.2 0, 8, .inl f54)), (q41, .inl (g.2 0, 8, .inl f54)), (q40, .inl (g.2 0, 497, .inl f44)), (q43, .inl (g.2 0, 8, .inl (upd (upd (upd (upd (upd (upd (upd (upd f54 0 (-1)) 1 (-1)) 2 (-1)) 3 (-1)) 4 (-1)) 5 (-1)) 6 (-1)) 7 (-1)))), (q1, .inr (12, [.ref q40, w4, w5, w6, w7, w8, w9, .ref q41, .ref q42, w12, w13, w14, w15, w16, .int 0, w18, w19, w20, w21, w22, w23, w24, w25, w26, w27, .ref q43, w29, w30, w31, w32, w33, w34, w35, w36, w37, w38, w39]))] H := hP
  have hD : va_D A [(q42, .inl (g.2 0, 8, .inl f54)), (q41, .inl (g.2 0, 8, .inl f54)), (q40, .inl (g.2 0, 497, .inl f44)), (q43, .inl (g.2 0, 8, .inl (upd (upd (upd (upd (upd (upd (upd (upd f54 0 (-1)) 1 (-1)) 2 (-1)) 3 (-1)) 4 (-1)) 5 (-1)) 6 (-1)) 7 (-1)))), (q1, .inr (12, [.ref q40, w4, w5, w6, w7, w8, w9, .ref q41, .ref q42, w12, w13, w14, w15, w16, .int 0, w18, w19, w20, w21, w22, w23, w24, w25, w26, w27, .ref q43, w29, w30, w31, w32, w33, w34, w35, w36, w37, w38, w39]))] := hD
  refine lv_if_eq (tgt := 13) hx hb dX10_isCut_6 (by decide) (fun _ => ?_) (fun h => absurd (by decide) h)
  refine lv_iconst (v := 1) hx hb dX10_isCut_13 (by decide) ?_
  refine pf_RX10_86 (ws' := [(q42, .inl (g.2 0, 8, .inl f54)), (q41, .inl (g.2 0, 8, .inl f54)), (q40, .inl (g.2 0, 497, .inl f44)), (q43, .inl (g.2 0, 8, .inl (upd (upd (upd (upd (upd (upd (upd (upd f54 0 (-1)) 1 (-1)) 2 (-1)) 3 (-1)) 4 (-1)) 5 (-1)) 6 (-1)) 7 (-1)))), (q1, .inr (12, [.ref q40, w4, w5, w6, w7, w8, .int 1, .ref q41, .ref q42, w12, w13, w14, w15, w16, .int 0, w18, w19, w20, w21, w22, w23, w24, w25, w26, w27, .ref q43, w29, w30, w31, w32, w33, w34, w35, w36, w37, w38, w39]))]) hx hb hown hE hP hD hS 4 rfl rfl rfl (Nat.le_of_ble_eq_true rfl) dX10_isCut_14 rfl (fun H locs hP hD hS => ?_)
  refine lv_aload_n hx hb dX10_isCut_17 rfl (lv_at hl 0 rfl) ?_
  refine gf_RX10_86 hx hb hown hE hP 4 rfl rfl dX10_isCut_18 ?_
  refine lv_if_ne (tgt := 37) hx hb dX10_isCut_21 (by decide) (fun _ => ?_) (fun h => absurd h (by decide))
  refine lv_iconst (v := 0) hx hb dX10_isCut_37 (by decide) ?_
  exact x_zret hx hb hr rfl rfl hlocks hP hD hS hAe hsz (Nat.le_of_ble_eq_true rfl) (Nat.le_of_ble_eq_true rfl) (fun _ => 0) [4] (by decide) rfl dX10_isCut_38

set_option maxHeartbeats 4000000 in
set_option maxRecDepth 100000 in
theorem c1687_X9_isCut (l : Launch) (g : gG) (hlx : l.stackTraces = false) (q1 q14 q15 q19 q22 q33 q34 q35 q36 q46 : Nat) (x2 : Int32) (w4 w6 w7 w8 w9 w10 w12 w13 w18 w23 w25 w29 w30 w31 w32 w37 w38 w39 w40 w42 w43 : Value) (f20 : Nat → Option Nat) (f44 : Nat → Int64) (f47 : Nat → Int32) (hf21 : f20 0 = some q22) (h48 : (0 : Int32) ≤ x2) (sz : Nat) : vx_Met l yX9_isCut [Cond.code yX9_isCut cX9_isCut 3 (some .boolean)] ({ frames := 7, cells := 1, slots := 6, locals := 121 } : Room) (va_Pc [.ref q1, .int x2] (PZ g sz [(q33, .inl (g.2 0, 300, .inl f47)), (q34, .inl (g.2 0, 8, .inl f47)), (q46, .inl (g.2 1, 300, .inr (.inl f44))), (q36, .inr (3, [.ref q46])), (q35, .inl (g.2 1, 300, .inr (.inl f44))), (q22, .inr (8, [w37, w38, w39, w40, .int 0, w42, w43])), (q15, .inr (7, [w23, .ref q33, w25, .ref q34, .ref q35, .ref q36, w29, w30, w31, w32])), (q19, .inl (g.2 3, 10, .inr (.inr (.inr (.inr f20))))), (q14, .inr (10, [.ref q19, .int 0, w18])), (q1, .inr (11, [.ref q14, w4, .ref q15, w6, w7, w8, w9, w10, .int 0, w12, w13]))])) NI (XW g [(q33, .inl (g.2 0, 300, .inl f47)), (q34, .inl (g.2 0, 8, .inl f47)), (q46, .inl (g.2 1, 300, .inr (.inl f44))), (q36, .inr (3, [.ref q46])), (q35, .inl (g.2 1, 300, .inr (.inl f44))), (q22, .inr (8, [w37, w38, w39, w40, .int 0, w42, w43])), (q15, .inr (7, [w23, .ref q33, w25, .ref q34, .ref q35, .ref q36, w29, w30, w31, w32])), (q19, .inl (g.2 3, 10, .inr (.inr (.inr (.inr f20))))), (q14, .inr (10, [.ref q19, .int 0, w18])), (q1, .inr (11, [.ref q14, w4, .ref q15, w6, w7, w8, w9, w10, .int 0, w12, w13]))] sz "java/lang/IndexOutOfBoundsException" [(q1, .inr (11, [.ref q14, w4, .ref q15, w6, w7, w8, w9, w10, .int 1, w12, w13])), (q19, .inl (g.2 3, 10, .inr (.inr (.inr (.inr f20))))), (q14, .inr (10, [.ref q19, .int 0, w18])), (q22, .inr (8, [w37, w38, w39, w40, .int 0, w42, w43])), (q34, .inl (g.2 0, 8, .inl (fillF 8 (-1) f47))), (q33, .inl (g.2 0, 300, .inl (fillF 300 (-1) f47))), (q46, .inl (g.2 1, 300, .inr (.inl f44))), (q36, .inr (3, [.ref q46])), (q35, .inl (g.2 1, 300, .inr (.inl f44))), (q15, .inr (7, [w23, .ref q33, w25, .ref q34, .ref q35, .ref q36, .int 0, .int 0, .int 0, .int 0]))]) 1 6 (va_A [(q33, .inl (g.2 0, 300, .inl f47)), (q34, .inl (g.2 0, 8, .inl f47)), (q46, .inl (g.2 1, 300, .inr (.inl f44))), (q36, .inr (3, [.ref q46])), (q35, .inl (g.2 1, 300, .inr (.inl f44))), (q22, .inr (8, [w37, w38, w39, w40, .int 0, w42, w43])), (q15, .inr (7, [w23, .ref q33, w25, .ref q34, .ref q35, .ref q36, w29, w30, w31, w32])), (q19, .inl (g.2 3, 10, .inr (.inr (.inr (.inr f20))))), (q14, .inr (10, [.ref q19, .int 0, w18])), (q1, .inr (11, [.ref q14, w4, .ref q15, w6, w7, w8, w9, w10, .int 0, w12, w13]))] sz) := by
  refine ofX (by decide) (Nat.le_of_ble_eq_true rfl) rfl ?_
  intro p e s m args below meth c A ls hAe hsz hx hb hml hr hlocks hin hown hE hP hD hA hS hl hex hz
  have hown : s.vm.findClass RX9 = some m.cls := hown
  refine lv_aload_n hx hb dX9_isCut_0 rfl (lv_at hl 0 rfl) ?_
  refine g_r (wr := []) (rV (rest := []) hx hb hml hown hE hP hD 9 rfl rfl (c1638_X9_upToDateScore l g q1 q14 q19 q22 q15 q36 q35 q46 q34 q33 w4 w6 w7 w8 w9 w10 w12 w13 w18 w23 w25 w29 w30 w31 w32 w37 w38 w39 w40 w42 w43 f20 f44 f47 (hf21) s.heap.size) (kV_X9_upToDateScore hE (e318 hE) rfl rfl ⟨(Nat.le_of_ble_eq_true rfl), (Nat.le_of_ble_eq_true rfl)⟩) [0, 1, 2, 3, 4, 5, 6, 7, 8, 9] rfl (by decide) rfl hl.1 rfl (lv_room (Nat.le_of_ble_eq_true rfl)) dX9_isCut_1 ⟨(Nat.le_of_ble_eq_true rfl), (Nat.le_of_ble_eq_true rfl)⟩) hP hD hS hA [0, 1, 2, 3, 4, 5, 6, 7, 8, 9] [] rfl rfl (by decide) (by decide) (fun u1 H locs hP hD hS => ?_)
  have hP : va_P g.1 vwCl [(q1, .inr (11, [.ref q14, w4, .ref q15, w6, w7, w8, w9, w10, .int 1, w12, w13])), (q19, .inl (g.2 3, 10, .inr (.inr (.inr (.inr f20))))), (q14, .inr (10, [.ref q19, .int 0, w18])), (q22, .inr (8, [w37, w38, w39, w40, .int 0, w42, w43])), (q15, .inr (7, [w23, .ref q33, w25, .ref q34, .ref q35, .ref q36, .int 0, .int 0, .int 0, .int 0])), (q34, .inl (g.2 0, 8, .inl (fillF 8 (-1) f47))), (q33, .inl (g.2 0, 300, .inl (fillF 300 (-1) f47))), (q46, .inl (g.2 1, 300, .inr (.inl f44))), (q36, .inr (3, [.ref q46])), (q35, .inl (g.2 1, 300, .inr (.inl f44)))] H := hP
  have hD : va_D A [(q1, .inr (11, [.ref q14, w4, .ref q15, w6, w7, w8, w9, w10, .int 1, w12, w13])), (q19, .inl (g.2 3, 10, .inr (.inr (.inr (.inr f20))))), (q14, .inr (10, [.ref q19, .int 0, w18])), (q22, .inr (8, [w37, w38, w39, w40, .int 0, w42, w43])), (q15, .inr (7, [w23, .ref q33, w25, .ref q34, .ref q35, .ref q36, .int 0, .int 0, .int 0, .int 0])), (q34, .inl (g.2 0, 8, .inl (fillF 8 (-1) f47))), (q33, .inl (g.2 0, 300, .inl (fillF 300 (-1) f47))), (q46, .inl (g.2 1, 300, .inr (.inl f44))), (q36, .inr (3, [.ref q46])), (q35, .inl (g.2 1, 300, .inr (.inl f44)))] := hD
  refine lv_astore_n (lv' := [(2, .ref q15), (0, .ref q1), (1, .int x2)]) hx hb dX9_isCut_4 rfl hl (by decide) rfl (fun ls hl => ?_)
  refine lv_iload_n hx hb dX9_isCut_5 rfl (lv_at hl 2 rfl) ?_
  refine lv_aload_n hx hb dX9_isCut_6 rfl (lv_at hl 0 rfl) ?_
  refine g_i (wr := [(q1, .inr (11, [.ref q14, w4, .ref q15, w6, w7, w8, w9, w10, .int 1, w12, w13])), (q19, .inl (g.2 3, 10, .inr (.inr (.inr (.inr f20))))), (q14, .inr (10, [.ref q19, .int 0, w18])), (q22, .inr (8, [w37, w38, w39, w40, .int 0, w42, w43])), (q34, .inl (g.2 0, 8, .inl (fillF 8 (-1) f47))), (q33, .inl (g.2 0, 300, .inl (fillF 300 (-1) f47))), (q46, .inl (g.2 1, 300, .inr (.inl f44))), (q36, .inr (3, [.ref q46])), (q35, .inl (g.2 1, 300, .inr (.inl f44)))]) (rV (rest := [.int x2]) hx hb hml hown hE hP hD 4 rfl rfl (c1639_X5_noteCount l g q15 w23 (.ref q33) w25 (.ref q34) (.ref q35) (.ref q36) (.int 0) (.int 0) (.int 0) H.size) (kV_X5_noteCount hE (e856 hE) rfl rfl ⟨(Nat.le_of_ble_eq_true rfl), (Nat.le_of_ble_eq_true rfl)⟩) [4] rfl (by decide) rfl hl.1 rfl (lv_room (Nat.le_of_ble_eq_true rfl)) dX9_isCut_7 ⟨(Nat.le_of_ble_eq_true rfl), (Nat.le_of_ble_eq_true rfl)⟩) hP hD hS hA [4] [0, 1, 2, 3, 5, 6, 7, 8, 9] rfl rfl (by decide) (by decide) (fun u2 H locs hP hD hS => ?_)
  have hP : va_P g.1 vwCl [(q1, .inr (11, [.ref q14, w4, .ref q15, w6, w7, w8, w9, w10, .int 1, w12, w13])), (q19, .inl (g.2 3, 10, .inr (.inr (.inr (.inr f20))))), (q14, .inr (10, [.ref q19, .int 0, w18])), (q22, .inr (8, [w37, w38, w39, w40, .int 0, w42, w43])), (q34, .inl (g.2 0, 8, .inl (fillF 8 (-1) f47))), (q33, .inl (g.2 0, 300, .inl (fillF 300 (-1) f47))), (q46, .inl (g.2 1, 300, .inr (.inl f44))), (q36, .inr (3, [.ref q46])), (q35, .inl (g.2 1, 300, .inr (.inl f44))), (q15, .inr (7, [w23, .ref q33, w25, .ref q34, .ref q35, .ref q36, .int 0, .int 0, .int 0, .int 0]))] H := hP
  have hD : va_D A [(q1, .inr (11, [.ref q14, w4, .ref q15, w6, w7, w8, w9, w10, .int 1, w12, w13])), (q19, .inl (g.2 3, 10, .inr (.inr (.inr (.inr f20))))), (q14, .inr (10, [.ref q19, .int 0, w18])), (q22, .inr (8, [w37, w38, w39, w40, .int 0, w42, w43])), (q34, .inl (g.2 0, 8, .inl (fillF 8 (-1) f47))), (q33, .inl (g.2 0, 300, .inl (fillF 300 (-1) f47))), (q46, .inl (g.2 1, 300, .inr (.inl f44))), (q36, .inr (3, [.ref q46])), (q35, .inl (g.2 1, 300, .inr (.inl f44))), (q15, .inr (7, [w23, .ref q33, w25, .ref q34, .ref q35, .ref q36, .int 0, .int 0, .int 0, .int 0]))] := hD
  refine gx_v (wr := [(q1, .inr (11, [.ref q14, w4, .ref q15, w6, w7, w8, w9, w10, .int 1, w12, w13])), (q19, .inl (g.2 3, 10, .inr (.inr (.inr (.inr f20))))), (q14, .inr (10, [.ref q19, .int 0, w18])), (q22, .inr (8, [w37, w38, w39, w40, .int 0, w42, w43])), (q34, .inl (g.2 0, 8, .inl (fillF 8 (-1) f47))), (q33, .inl (g.2 0, 300, .inl (fillF 300 (-1) f47))), (q46, .inl (g.2 1, 300, .inr (.inl f44))), (q36, .inr (3, [.ref q46])), (q35, .inl (g.2 1, 300, .inr (.inl f44))), (q15, .inr (7, [w23, .ref q33, w25, .ref q34, .ref q35, .ref q36, .int 0, .int 0, .int 0, .int 0]))]) (rSx (rest := []) hx hb hml hown hE hP hD hS hA hz (c1169_X9_requireIndex l g hlx x2 h48 H.size) (kS_X9_requireIndex hE (e620 hE) rfl rfl ⟨(Nat.le_of_ble_eq_true rfl), (Nat.le_of_ble_eq_true rfl)⟩) [] rfl (by decide) rfl hl.1 rfl (lv_room (Nat.le_of_ble_eq_true rfl)) dX9_isCut_10 ⟨(Nat.le_of_ble_eq_true rfl), (Nat.le_of_ble_eq_true rfl)⟩) hP hD hS hA [] [0, 1, 2, 3, 4, 5, 6, 7, 8, 9] rfl rfl (by decide) (by decide) (fun ce9 q9 H locs hP hD hS hq1 hq2 hq3 => ?_)
  exact x_out hex hlocks hq1 hq2 hq3 hP hD hS hAe hsz (Nat.le_of_ble_eq_true rfl) (Nat.le_of_ble_eq_true rfl) [0, 1, 2, 3, 4, 5, 6, 7, 8, 9] (by decide) rfl

set_option maxHeartbeats 4000000 in
set_option maxRecDepth 100000 in
theorem c1688_L_isCut (l : Launch) (g : gG) (hlx : l.stackTraces = false) (q1 q3 q15 q16 q20 q23 q34 q35 q36 q37 q47 : Nat) (x2 : Int32) (w5 w7 w8 w9 w10 w11 w13 w14 w19 w24 w26 w30 w31 w32 w33 w38 w39 w40 w41 w43 w44 : Value) (f21 : Nat → Option Nat) (f45 : Nat → Int64) (f48 : Nat → Int32) (hf22 : f21 0 = some q23) (h49 : (0 : Int32) ≤ x2) (sz : Nat) : Met l yL_isCut [Cond.codeWith yL_isCut cL_isCut 4 (some .int) [(0, 16, 19, 13)]] ({ frames := 8, cells := 1, slots := 6, locals := 143 } : Room) (va_Pc [.ref q1, .int x2, .ref q3] (PZ g sz [(q34, .inl (g.2 0, 300, .inl f48)), (q35, .inl (g.2 0, 8, .inl f48)), (q47, .inl (g.2 1, 300, .inr (.inl f45))), (q37, .inr (3, [.ref q47])), (q36, .inl (g.2 1, 300, .inr (.inl f45))), (q23, .inr (8, [w38, w39, w40, w41, .int 0, w43, w44])), (q16, .inr (7, [w24, .ref q34, w26, .ref q35, .ref q36, .ref q37, w30, w31, w32, w33])), (q20, .inl (g.2 3, 10, .inr (.inr (.inr (.inr f21))))), (q15, .inr (10, [.ref q20, .int 0, w19])), (q1, .inr (11, [.ref q15, w5, .ref q16, w7, w8, w9, w10, w11, .int 0, w13, w14]))])) (QI g [(q34, .inl (g.2 0, 300, .inl f48)), (q35, .inl (g.2 0, 8, .inl f48)), (q47, .inl (g.2 1, 300, .inr (.inl f45))), (q37, .inr (3, [.ref q47])), (q36, .inl (g.2 1, 300, .inr (.inl f45))), (q23, .inr (8, [w38, w39, w40, w41, .int 0, w43, w44])), (q16, .inr (7, [w24, .ref q34, w26, .ref q35, .ref q36, .ref q37, w30, w31, w32, w33])), (q20, .inl (g.2 3, 10, .inr (.inr (.inr (.inr f21))))), (q15, .inr (10, [.ref q20, .int 0, w19])), (q1, .inr (11, [.ref q15, w5, .ref q16, w7, w8, w9, w10, w11, .int 0, w13, w14]))] sz 1 (fun _ => [])) 1 6 (va_A [(q34, .inl (g.2 0, 300, .inl f48)), (q35, .inl (g.2 0, 8, .inl f48)), (q47, .inl (g.2 1, 300, .inr (.inl f45))), (q37, .inr (3, [.ref q47])), (q36, .inl (g.2 1, 300, .inr (.inl f45))), (q23, .inr (8, [w38, w39, w40, w41, .int 0, w43, w44])), (q16, .inr (7, [w24, .ref q34, w26, .ref q35, .ref q36, .ref q37, w30, w31, w32, w33])), (q20, .inl (g.2 3, 10, .inr (.inr (.inr (.inr f21))))), (q15, .inr (10, [.ref q20, .int 0, w19])), (q1, .inr (11, [.ref q15, w5, .ref q16, w7, w8, w9, w10, w11, .int 0, w13, w14]))] sz) := by
  refine ofH (by decide) (Nat.le_of_ble_eq_true rfl) rfl ?_
  intro p e s m args below meth c A ls hAe hsz hx hb hml hr hlocks hin hown hE hP hD hA hS hl htb hz
  have hown : s.vm.findClass RL = some m.cls := hown
  refine lv_aload_n hx hb dL_isCut_0 rfl (lv_at hl 2 rfl) ?_
  refine lv_iconst (v := 0) hx hb dL_isCut_1 (by decide) ?_
  refine lv_aload_n hx hb dL_isCut_2 rfl (lv_at hl 0 rfl) ?_
  refine lv_iload_n hx hb dL_isCut_3 rfl (lv_at hl 1 rfl) ?_
  refine gx_i (wr := []) (rVx (rest := [.int 0, .ref q3]) hx hb hml hown hE hP hD hS hA hz 9 rfl rfl (c1687_X9_isCut l g hlx q1 q15 q16 q20 q23 q34 q35 q36 q37 q47 x2 w5 w7 w8 w9 w10 w11 w13 w14 w19 w24 w26 w30 w31 w32 w33 w38 w39 w40 w41 w43 w44 f21 f45 f48 (hf22) h49 s.heap.size) (kV_X9_isCut hE (e885 hE) rfl rfl ⟨(Nat.le_of_ble_eq_true rfl), (Nat.le_of_ble_eq_true rfl)⟩) [0, 1, 2, 3, 4, 5, 6, 7, 8, 9] rfl (by decide) rfl hl.1 rfl (lv_room (Nat.le_of_ble_eq_true rfl)) dL_isCut_4 ⟨(Nat.le_of_ble_eq_true rfl), (Nat.le_of_ble_eq_true rfl)⟩) hP hD hS hA [0, 1, 2, 3, 4, 5, 6, 7, 8, 9] [] rfl rfl (by decide) (by decide) (fun ce9 q9 H locs hP hD hS hq1 hq2 hq3 => ?_)
  have hP : va_P g.1 vwCl [(q1, .inr (11, [.ref q15, w5, .ref q16, w7, w8, w9, w10, w11, .int 1, w13, w14])), (q20, .inl (g.2 3, 10, .inr (.inr (.inr (.inr f21))))), (q15, .inr (10, [.ref q20, .int 0, w19])), (q23, .inr (8, [w38, w39, w40, w41, .int 0, w43, w44])), (q35, .inl (g.2 0, 8, .inl (fillF 8 (-1) f48))), (q34, .inl (g.2 0, 300, .inl (fillF 300 (-1) f48))), (q47, .inl (g.2 1, 300, .inr (.inl f45))), (q37, .inr (3, [.ref q47])), (q36, .inl (g.2 1, 300, .inr (.inl f45))), (q16, .inr (7, [w24, .ref q34, w26, .ref q35, .ref q36, .ref q37, .int 0, .int 0, .int 0, .int 0]))] H := hP
  have hD : va_D A [(q1, .inr (11, [.ref q15, w5, .ref q16, w7, w8, w9, w10, w11, .int 1, w13, w14])), (q20, .inl (g.2 3, 10, .inr (.inr (.inr (.inr f21))))), (q15, .inr (10, [.ref q20, .int 0, w19])), (q23, .inr (8, [w38, w39, w40, w41, .int 0, w43, w44])), (q35, .inl (g.2 0, 8, .inl (fillF 8 (-1) f48))), (q34, .inl (g.2 0, 300, .inl (fillF 300 (-1) f48))), (q47, .inl (g.2 1, 300, .inr (.inl f45))), (q37, .inr (3, [.ref q47])), (q36, .inl (g.2 1, 300, .inr (.inl f45))), (q16, .inr (7, [w24, .ref q34, w26, .ref q35, .ref q36, .ref q37, .int 0, .int 0, .int 0, .int 0]))] := hD
  refine x_catch (name := "java/lang/IndexOutOfBoundsException") (hh := [(0, 16, 19, 13)]) (tgt := 19) hown htb [] ⟨0, 16, 19, 13⟩ [] rfl (fun _ h => nomatch h) rfl (by decide) (e532 hE) (e625 hE) hq1 hq2 hq3 rfl ?_
  refine lv_astore_n (lv' := [(3, .ref q9), (0, .ref q1), (1, .int x2), (2, .ref q3)]) hx hb dL_isCut_19 rfl hl (by decide) rfl (fun ls hl => ?_)
  refine lv_iconst (v := 1) hx hb dL_isCut_20 (by decide) ?_
  exact x_zret hx hb hr rfl rfl hlocks hP hD hS hAe hsz (Nat.le_of_ble_eq_true rfl) (Nat.le_of_ble_eq_true rfl) (fun _ => 0) [] (by decide) rfl dL_isCut_21

set_option maxHeartbeats 4000000 in
set_option maxRecDepth 100000 in
theorem c1689_X10_isCut (l : Launch) (g : gG) (q1 q40 q41 q42 q43 : Nat) (x2 : Int32) (w4 w5 w6 w7 w8 w9 w12 w13 w14 w15 w16 w17 w18 w19 w20 w21 w22 w23 w24 w25 w26 w27 w29 w30 w31 w32 w33 w34 w35 w36 w37 w38 w39 : Value) (f44 : Nat → Int32) (f54 : Nat → Int32) (hf45 : f44 0 = 0) (hf46 : f44 49 = 0) (hf47 : f44 98 = 0) (hf48 : f44 147 = 0) (hf49 : f44 196 = 0) (hf50 : f44 245 = 0) (hf51 : f44 294 = 0) (hf52 : f44 343 = 0) (hf53 : f44 392 = 0) (hf55 : f54 0 = 0) (hf56 : f54 1 = 0) (hf57 : f54 2 = 0) (hf58 : f54 3 = 0) (hf59 : f54 4 = 0) (hf60 : f54 5 = 0) (hf61 : f54 6 = 0) (hf62 : f54 7 = 0) (h63 : (0 : Int32) ≤ x2) (sz : Nat) : Met l yX10_isCut [Cond.code yX10_isCut cX10_isCut 2 (some .boolean)] ({ frames := 5, cells := 0, slots := 0, locals := 110 } : Room) (va_Pc [.ref q1, .int x2] (PX g sz [(q43, .inl (g.2 0, 8, .inl f54)), (q42, .inl (g.2 0, 8, .inl f54)), (q41, .inl (g.2 0, 8, .inl f54)), (q40, .inl (g.2 0, 497, .inl f44)), (q1, .inr (12, [.ref q40, w4, w5, w6, w7, w8, w9, .ref q41, .ref q42, w12, w13, w14, w15, w16, w17, w18, w19, w20, w21, w22, w23, w24, w25, w26, w27, .ref q43, w29, w30, w31, w32, w33, w34, w35, w36, w37, w38, w39]))])) (QI g [(q43, .inl (g.2 0, 8, .inl f54)), (q42, .inl (g.2 0, 8, .inl f54)), (q41, .inl (g.2 0, 8, .inl f54)), (q40, .inl (g.2 0, 497, .inl f44)), (q1, .inr (12, [.ref q40, w4, w5, w6, w7, w8, w9, .ref q41, .ref q42, w12, w13, w14, w15, w16, w17, w18, w19, w20, w21, w22, w23, w24, w25, w26, w27, .ref q43, w29, w30, w31, w32, w33, w34, w35, w36, w37, w38, w39]))] sz 0 (fun _ => [(q1, .inr (12, [.ref q40, w4, w5, w6, w7, w8, .int 1, .ref q41, .ref q42, w12, w13, w14, w15, w16, .int 0, w18, w19, w20, w21, w22, w23, w24, w25, w26, w27, .ref q43, w29, w30, w31, w32, w33, w34, w35, w36, w37, w38, w39]))])) 0 0 (va_A [(q43, .inl (g.2 0, 8, .inl f54)), (q42, .inl (g.2 0, 8, .inl f54)), (q41, .inl (g.2 0, 8, .inl f54)), (q40, .inl (g.2 0, 497, .inl f44)), (q1, .inr (12, [.ref q40, w4, w5, w6, w7, w8, w9, .ref q41, .ref q42, w12, w13, w14, w15, w16, w17, w18, w19, w20, w21, w22, w23, w24, w25, w26, w27, .ref q43, w29, w30, w31, w32, w33, w34, w35, w36, w37, w38, w39]))] sz) := by
  refine ofN (by decide) (Nat.le_of_ble_eq_true rfl) rfl ?_
  intro p e s m args below meth c A ls hAe hsz hx hb hml hr hlocks hin hown hE hP hD hA hS hl
  have hown : s.vm.findClass RX10 = some m.cls := hown
  refine lv_aload_n hx hb dX10_isCut_0 rfl (lv_at hl 0 rfl) ?_
  refine lv_aload_n hx hb dX10_isCut_1 rfl (lv_at hl 0 rfl) ?_
  refine lv_iload_n hx hb dX10_isCut_2 rfl (lv_at hl 1 rfl) ?_
  refine g_i (wr := []) (rV (rest := [.ref q1]) hx hb hml hown hE hP hD 4 rfl rfl (c1682_X10_isNote l g q1 q40 q41 q42 q43 x2 w4 w5 w6 w7 w8 w9 w12 w13 w14 w15 w16 w17 w18 w19 w20 w21 w22 w23 w24 w25 w26 w27 w29 w30 w31 w32 w33 w34 w35 w36 w37 w38 w39 f44 f54 (hf45) (hf46) (hf47) (hf48) (hf49) (hf50) (hf51) (hf52) (hf53) (hf55) (hf56) (hf57) (hf58) (hf59) (hf60) (hf61) (hf62) h63 s.heap.size) (kV_X10_isNote hE (e1596 hE) rfl rfl ⟨(Nat.le_of_ble_eq_true rfl), (Nat.le_of_ble_eq_true rfl)⟩) [0, 1, 2, 3, 4] rfl (by decide) rfl hl.1 rfl (lv_room (Nat.le_of_ble_eq_true rfl)) dX10_isCut_3 ⟨(Nat.le_of_ble_eq_true rfl), (Nat.le_of_ble_eq_true rfl)⟩) hP hD hS hA [0, 1, 2, 3, 4] [] rfl rfl (by decide) (by decide) (fun u1 H locs hP hD hS => ?_)
  have hP : va_P g.1 vwCl [(q42, .inl (g.2 0, 8, .inl f54)), (q41, .inl (g.2 0, 8, .inl f54)), (q40, .inl (g.2 0, 497, .inl f44)), (q43, .inl (g.2 0, 8, .inl (upd (upd (upd (upd (upd (upd (upd (upd f54 0 (-1)) 1 (-1)) 2 (-1)) 3 (-1)) 4 (-1)) 5 (-1)) 6 (-1)) 7 (-1)))), (q1, .inr (12, [.ref q40, w4, w5, w6, w7, w8, w9, .ref q41, .ref q42, w12, w13, w14, w15, w16, .int 0, w18, w19, w20, w21, w22, w23, w24, w25, w26, w27, .ref q43, w29, w30, w31, w32, w33, w34, w35, w36, w37, w38, w39]))] H := hP
  have hD : va_D A [(q42, .inl (g.2 0, 8, .inl f54)), (q41, .inl (g.2 0, 8, .inl f54)), (q40, .inl (g.2 0, 497, .inl f44)), (q43, .inl (g.2 0, 8, .inl (upd (upd (upd (upd (upd (upd (upd (upd f54 0 (-1)) 1 (-1)) 2 (-1)) 3 (-1)) 4 (-1)) 5 (-1)) 6 (-1)) 7 (-1)))), (q1, .inr (12, [.ref q40, w4, w5, w6, w7, w8, w9, .ref q41, .ref q42, w12, w13, w14, w15, w16, .int 0, w18, w19, w20, w21, w22, w23, w24, w25, w26, w27, .ref q43, w29, w30, w31, w32, w33, w34, w35, w36, w37, w38, w39]))] := hD
  refine lv_if_eq (tgt := 13) hx hb dX10_isCut_6 (by decide) (fun _ => ?_) (fun h => absurd (by decide) h)
  refine lv_iconst (v := 1) hx hb dX10_isCut_13 (by decide) ?_
  refine pf_RX10_86 (ws' := [(q42, .inl (g.2 0, 8, .inl f54)), (q41, .inl (g.2 0, 8, .inl f54)), (q40, .inl (g.2 0, 497, .inl f44)), (q43, .inl (g.2 0, 8, .inl (upd (upd (upd (upd (upd (upd (upd (upd f54 0 (-1)) 1 (-1)) 2 (-1)) 3 (-1)) 4 (-1)) 5 (-1)) 6 (-1)) 7 (-1)))), (q1, .inr (12, [.ref q40, w4, w5, w6, w7, w8, .int 1, .ref q41, .ref q42, w12, w13, w14, w15, w16, .int 0, w18, w19, w20, w21, w22, w23, w24, w25, w26, w27, .ref q43, w29, w30, w31, w32, w33, w34, w35, w36, w37, w38, w39]))]) hx hb hown hE hP hD hS 4 rfl rfl rfl (Nat.le_of_ble_eq_true rfl) dX10_isCut_14 rfl (fun H locs hP hD hS => ?_)
  refine lv_aload_n hx hb dX10_isCut_17 rfl (lv_at hl 0 rfl) ?_
  refine gf_RX10_86 hx hb hown hE hP 4 rfl rfl dX10_isCut_18 ?_
  refine lv_if_ne (tgt := 37) hx hb dX10_isCut_21 (by decide) (fun _ => ?_) (fun h => absurd h (by decide))
  refine lv_iconst (v := 0) hx hb dX10_isCut_37 (by decide) ?_
  exact x_zret hx hb hr rfl rfl hlocks hP hD hS hAe hsz (Nat.le_of_ble_eq_true rfl) (Nat.le_of_ble_eq_true rfl) (fun _ => 0) [4] (by decide) rfl dX10_isCut_38

set_option maxHeartbeats 4000000 in
set_option maxRecDepth 100000 in
theorem c1690_X9_cutBy (l : Launch) (g : gG) (hlx : l.stackTraces = false) (q1 q14 q15 q19 q22 q33 q34 q35 q36 q46 : Nat) (x2 : Int32) (w4 w6 w7 w8 w9 w10 w12 w13 w18 w23 w25 w29 w30 w31 w32 w37 w38 w39 w40 w42 w43 : Value) (f20 : Nat → Option Nat) (f44 : Nat → Int64) (f47 : Nat → Int32) (hf21 : f20 0 = some q22) (h48 : x2 < 0) (sz : Nat) : vx_Met l yX9_cutBy [Cond.code yX9_cutBy cX9_cutBy 4 (some .int)] ({ frames := 7, cells := 1, slots := 6, locals := 121 } : Room) (va_Pc [.ref q1, .int x2] (PZ g sz [(q33, .inl (g.2 0, 300, .inl f47)), (q34, .inl (g.2 0, 8, .inl f47)), (q46, .inl (g.2 1, 300, .inr (.inl f44))), (q36, .inr (3, [.ref q46])), (q35, .inl (g.2 1, 300, .inr (.inl f44))), (q22, .inr (8, [w37, w38, w39, w40, .int 0, w42, w43])), (q15, .inr (7, [w23, .ref q33, w25, .ref q34, .ref q35, .ref q36, w29, w30, w31, w32])), (q19, .inl (g.2 3, 10, .inr (.inr (.inr (.inr f20))))), (q14, .inr (10, [.ref q19, .int 0, w18])), (q1, .inr (11, [.ref q14, w4, .ref q15, w6, w7, w8, w9, w10, .int 0, w12, w13]))])) NI (XW g [(q33, .inl (g.2 0, 300, .inl f47)), (q34, .inl (g.2 0, 8, .inl f47)), (q46, .inl (g.2 1, 300, .inr (.inl f44))), (q36, .inr (3, [.ref q46])), (q35, .inl (g.2 1, 300, .inr (.inl f44))), (q22, .inr (8, [w37, w38, w39, w40, .int 0, w42, w43])), (q15, .inr (7, [w23, .ref q33, w25, .ref q34, .ref q35, .ref q36, w29, w30, w31, w32])), (q19, .inl (g.2 3, 10, .inr (.inr (.inr (.inr f20))))), (q14, .inr (10, [.ref q19, .int 0, w18])), (q1, .inr (11, [.ref q14, w4, .ref q15, w6, w7, w8, w9, w10, .int 0, w12, w13]))] sz "java/lang/IndexOutOfBoundsException" [(q1, .inr (11, [.ref q14, w4, .ref q15, w6, w7, w8, w9, w10, .int 1, w12, w13])), (q19, .inl (g.2 3, 10, .inr (.inr (.inr (.inr f20))))), (q14, .inr (10, [.ref q19, .int 0, w18])), (q22, .inr (8, [w37, w38, w39, w40, .int 0, w42, w43])), (q34, .inl (g.2 0, 8, .inl (fillF 8 (-1) f47))), (q33, .inl (g.2 0, 300, .inl (fillF 300 (-1) f47))), (q46, .inl (g.2 1, 300, .inr (.inl f44))), (q36, .inr (3, [.ref q46])), (q35, .inl (g.2 1, 300, .inr (.inl f44))), (q15, .inr (7, [w23, .ref q33, w25, .ref q34, .ref q35, .ref q36, .int 0, .int 0, .int 0, .int 0]))]) 1 6 (va_A [(q33, .inl (g.2 0, 300, .inl f47)), (q34, .inl (g.2 0, 8, .inl f47)), (q46, .inl (g.2 1, 300, .inr (.inl f44))), (q36, .inr (3, [.ref q46])), (q35, .inl (g.2 1, 300, .inr (.inl f44))), (q22, .inr (8, [w37, w38, w39, w40, .int 0, w42, w43])), (q15, .inr (7, [w23, .ref q33, w25, .ref q34, .ref q35, .ref q36, w29, w30, w31, w32])), (q19, .inl (g.2 3, 10, .inr (.inr (.inr (.inr f20))))), (q14, .inr (10, [.ref q19, .int 0, w18])), (q1, .inr (11, [.ref q14, w4, .ref q15, w6, w7, w8, w9, w10, .int 0, w12, w13]))] sz) := by
  refine ofX (by decide) (Nat.le_of_ble_eq_true rfl) rfl ?_
  intro p e s m args below meth c A ls hAe hsz hx hb hml hr hlocks hin hown hE hP hD hA hS hl hex hz
  have hown : s.vm.findClass RX9 = some m.cls := hown
  refine lv_aload_n hx hb dX9_cutBy_0 rfl (lv_at hl 0 rfl) ?_
  refine g_r (wr := []) (rV (rest := []) hx hb hml hown hE hP hD 9 rfl rfl (c1638_X9_upToDateScore l g q1 q14 q19 q22 q15 q36 q35 q46 q34 q33 w4 w6 w7 w8 w9 w10 w12 w13 w18 w23 w25 w29 w30 w31 w32 w37 w38 w39 w40 w42 w43 f20 f44 f47 (hf21) s.heap.size) (kV_X9_upToDateScore hE (e318 hE) rfl rfl ⟨(Nat.le_of_ble_eq_true rfl), (Nat.le_of_ble_eq_true rfl)⟩) [0, 1, 2, 3, 4, 5, 6, 7, 8, 9] rfl (by decide) rfl hl.1 rfl (lv_room (Nat.le_of_ble_eq_true rfl)) dX9_cutBy_1 ⟨(Nat.le_of_ble_eq_true rfl), (Nat.le_of_ble_eq_true rfl)⟩) hP hD hS hA [0, 1, 2, 3, 4, 5, 6, 7, 8, 9] [] rfl rfl (by decide) (by decide) (fun u1 H locs hP hD hS => ?_)
  have hP : va_P g.1 vwCl [(q1, .inr (11, [.ref q14, w4, .ref q15, w6, w7, w8, w9, w10, .int 1, w12, w13])), (q19, .inl (g.2 3, 10, .inr (.inr (.inr (.inr f20))))), (q14, .inr (10, [.ref q19, .int 0, w18])), (q22, .inr (8, [w37, w38, w39, w40, .int 0, w42, w43])), (q15, .inr (7, [w23, .ref q33, w25, .ref q34, .ref q35, .ref q36, .int 0, .int 0, .int 0, .int 0])), (q34, .inl (g.2 0, 8, .inl (fillF 8 (-1) f47))), (q33, .inl (g.2 0, 300, .inl (fillF 300 (-1) f47))), (q46, .inl (g.2 1, 300, .inr (.inl f44))), (q36, .inr (3, [.ref q46])), (q35, .inl (g.2 1, 300, .inr (.inl f44)))] H := hP
  have hD : va_D A [(q1, .inr (11, [.ref q14, w4, .ref q15, w6, w7, w8, w9, w10, .int 1, w12, w13])), (q19, .inl (g.2 3, 10, .inr (.inr (.inr (.inr f20))))), (q14, .inr (10, [.ref q19, .int 0, w18])), (q22, .inr (8, [w37, w38, w39, w40, .int 0, w42, w43])), (q15, .inr (7, [w23, .ref q33, w25, .ref q34, .ref q35, .ref q36, .int 0, .int 0, .int 0, .int 0])), (q34, .inl (g.2 0, 8, .inl (fillF 8 (-1) f47))), (q33, .inl (g.2 0, 300, .inl (fillF 300 (-1) f47))), (q46, .inl (g.2 1, 300, .inr (.inl f44))), (q36, .inr (3, [.ref q46])), (q35, .inl (g.2 1, 300, .inr (.inl f44)))] := hD
  refine lv_astore_n (lv' := [(2, .ref q15), (0, .ref q1), (1, .int x2)]) hx hb dX9_cutBy_4 rfl hl (by decide) rfl (fun ls hl => ?_)
  refine lv_iload_n hx hb dX9_cutBy_5 rfl (lv_at hl 2 rfl) ?_
  refine lv_aload_n hx hb dX9_cutBy_6 rfl (lv_at hl 0 rfl) ?_
  refine g_i (wr := [(q1, .inr (11, [.ref q14, w4, .ref q15, w6, w7, w8, w9, w10, .int 1, w12, w13])), (q19, .inl (g.2 3, 10, .inr (.inr (.inr (.inr f20))))), (q14, .inr (10, [.ref q19, .int 0, w18])), (q22, .inr (8, [w37, w38, w39, w40, .int 0, w42, w43])), (q34, .inl (g.2 0, 8, .inl (fillF 8 (-1) f47))), (q33, .inl (g.2 0, 300, .inl (fillF 300 (-1) f47))), (q46, .inl (g.2 1, 300, .inr (.inl f44))), (q36, .inr (3, [.ref q46])), (q35, .inl (g.2 1, 300, .inr (.inl f44)))]) (rV (rest := [.int x2]) hx hb hml hown hE hP hD 4 rfl rfl (c1639_X5_noteCount l g q15 w23 (.ref q33) w25 (.ref q34) (.ref q35) (.ref q36) (.int 0) (.int 0) (.int 0) H.size) (kV_X5_noteCount hE (e856 hE) rfl rfl ⟨(Nat.le_of_ble_eq_true rfl), (Nat.le_of_ble_eq_true rfl)⟩) [4] rfl (by decide) rfl hl.1 rfl (lv_room (Nat.le_of_ble_eq_true rfl)) dX9_cutBy_7 ⟨(Nat.le_of_ble_eq_true rfl), (Nat.le_of_ble_eq_true rfl)⟩) hP hD hS hA [4] [0, 1, 2, 3, 5, 6, 7, 8, 9] rfl rfl (by decide) (by decide) (fun u2 H locs hP hD hS => ?_)
  have hP : va_P g.1 vwCl [(q1, .inr (11, [.ref q14, w4, .ref q15, w6, w7, w8, w9, w10, .int 1, w12, w13])), (q19, .inl (g.2 3, 10, .inr (.inr (.inr (.inr f20))))), (q14, .inr (10, [.ref q19, .int 0, w18])), (q22, .inr (8, [w37, w38, w39, w40, .int 0, w42, w43])), (q34, .inl (g.2 0, 8, .inl (fillF 8 (-1) f47))), (q33, .inl (g.2 0, 300, .inl (fillF 300 (-1) f47))), (q46, .inl (g.2 1, 300, .inr (.inl f44))), (q36, .inr (3, [.ref q46])), (q35, .inl (g.2 1, 300, .inr (.inl f44))), (q15, .inr (7, [w23, .ref q33, w25, .ref q34, .ref q35, .ref q36, .int 0, .int 0, .int 0, .int 0]))] H := hP
  have hD : va_D A [(q1, .inr (11, [.ref q14, w4, .ref q15, w6, w7, w8, w9, w10, .int 1, w12, w13])), (q19, .inl (g.2 3, 10, .inr (.inr (.inr (.inr f20))))), (q14, .inr (10, [.ref q19, .int 0, w18])), (q22, .inr (8, [w37, w38, w39, w40, .int 0, w42, w43])), (q34, .inl (g.2 0, 8, .inl (fillF 8 (-1) f47))), (q33, .inl (g.2 0, 300, .inl (fillF 300 (-1) f47))), (q46, .inl (g.2 1, 300, .inr (.inl f44))), (q36, .inr (3, [.ref q46])), (q35, .inl (g.2 1, 300, .inr (.inl f44))), (q15, .inr (7, [w23, .ref q33, w25, .ref q34, .ref q35, .ref q36, .int 0, .int 0, .int 0, .int 0]))] := hD
  refine gx_v (wr := [(q1, .inr (11, [.ref q14, w4, .ref q15, w6, w7, w8, w9, w10, .int 1, w12, w13])), (q19, .inl (g.2 3, 10, .inr (.inr (.inr (.inr f20))))), (q14, .inr (10, [.ref q19, .int 0, w18])), (q22, .inr (8, [w37, w38, w39, w40, .int 0, w42, w43])), (q34, .inl (g.2 0, 8, .inl (fillF 8 (-1) f47))), (q33, .inl (g.2 0, 300, .inl (fillF 300 (-1) f47))), (q46, .inl (g.2 1, 300, .inr (.inl f44))), (q36, .inr (3, [.ref q46])), (q35, .inl (g.2 1, 300, .inr (.inl f44))), (q15, .inr (7, [w23, .ref q33, w25, .ref q34, .ref q35, .ref q36, .int 0, .int 0, .int 0, .int 0]))]) (rSx (rest := []) hx hb hml hown hE hP hD hS hA hz (c1164_X9_requireIndex l g hlx x2 h48 H.size) (kS_X9_requireIndex hE (e620 hE) rfl rfl ⟨(Nat.le_of_ble_eq_true rfl), (Nat.le_of_ble_eq_true rfl)⟩) [] rfl (by decide) rfl hl.1 rfl (lv_room (Nat.le_of_ble_eq_true rfl)) dX9_cutBy_10 ⟨(Nat.le_of_ble_eq_true rfl), (Nat.le_of_ble_eq_true rfl)⟩) hP hD hS hA [] [0, 1, 2, 3, 4, 5, 6, 7, 8, 9] rfl rfl (by decide) (by decide) (fun ce9 q9 H locs hP hD hS hq1 hq2 hq3 => ?_)
  exact x_out hex hlocks hq1 hq2 hq3 hP hD hS hAe hsz (Nat.le_of_ble_eq_true rfl) (Nat.le_of_ble_eq_true rfl) [0, 1, 2, 3, 4, 5, 6, 7, 8, 9] (by decide) rfl

set_option maxHeartbeats 4000000 in
set_option maxRecDepth 100000 in
theorem c1691_L_cutBy (l : Launch) (g : gG) (hlx : l.stackTraces = false) (q1 q3 q15 q16 q20 q23 q34 q35 q36 q37 q47 : Nat) (x2 : Int32) (w5 w7 w8 w9 w10 w11 w13 w14 w19 w24 w26 w30 w31 w32 w33 w38 w39 w40 w41 w43 w44 : Value) (f21 : Nat → Option Nat) (f45 : Nat → Int64) (f48 : Nat → Int32) (hf22 : f21 0 = some q23) (h49 : x2 < 0) (sz : Nat) : Met l yL_cutBy [Cond.codeWith yL_cutBy cL_cutBy 4 (some .int) [(0, 9, 12, 13), (0, 9, 15, 39)]] ({ frames := 8, cells := 1, slots := 6, locals := 144 } : Room) (va_Pc [.ref q1, .int x2, .ref q3] (PZ g sz [(q34, .inl (g.2 0, 300, .inl f48)), (q35, .inl (g.2 0, 8, .inl f48)), (q47, .inl (g.2 1, 300, .inr (.inl f45))), (q37, .inr (3, [.ref q47])), (q36, .inl (g.2 1, 300, .inr (.inl f45))), (q23, .inr (8, [w38, w39, w40, w41, .int 0, w43, w44])), (q16, .inr (7, [w24, .ref q34, w26, .ref q35, .ref q36, .ref q37, w30, w31, w32, w33])), (q20, .inl (g.2 3, 10, .inr (.inr (.inr (.inr f21))))), (q15, .inr (10, [.ref q20, .int 0, w19])), (q1, .inr (11, [.ref q15, w5, .ref q16, w7, w8, w9, w10, w11, .int 0, w13, w14]))])) (QI g [(q34, .inl (g.2 0, 300, .inl f48)), (q35, .inl (g.2 0, 8, .inl f48)), (q47, .inl (g.2 1, 300, .inr (.inl f45))), (q37, .inr (3, [.ref q47])), (q36, .inl (g.2 1, 300, .inr (.inl f45))), (q23, .inr (8, [w38, w39, w40, w41, .int 0, w43, w44])), (q16, .inr (7, [w24, .ref q34, w26, .ref q35, .ref q36, .ref q37, w30, w31, w32, w33])), (q20, .inl (g.2 3, 10, .inr (.inr (.inr (.inr f21))))), (q15, .inr (10, [.ref q20, .int 0, w19])), (q1, .inr (11, [.ref q15, w5, .ref q16, w7, w8, w9, w10, w11, .int 0, w13, w14]))] sz 1 (fun _ => [])) 1 6 (va_A [(q34, .inl (g.2 0, 300, .inl f48)), (q35, .inl (g.2 0, 8, .inl f48)), (q47, .inl (g.2 1, 300, .inr (.inl f45))), (q37, .inr (3, [.ref q47])), (q36, .inl (g.2 1, 300, .inr (.inl f45))), (q23, .inr (8, [w38, w39, w40, w41, .int 0, w43, w44])), (q16, .inr (7, [w24, .ref q34, w26, .ref q35, .ref q36, .ref q37, w30, w31, w32, w33])), (q20, .inl (g.2 3, 10, .inr (.inr (.inr (.inr f21))))), (q15, .inr (10, [.ref q20, .int 0, w19])), (q1, .inr (11, [.ref q15, w5, .ref q16, w7, w8, w9, w10, w11, .int 0, w13, w14]))] sz) := by
  refine ofH (by decide) (Nat.le_of_ble_eq_true rfl) rfl ?_
  intro p e s m args below meth c A ls hAe hsz hx hb hml hr hlocks hin hown hE hP hD hA hS hl htb hz
  have hown : s.vm.findClass RL = some m.cls := hown
  refine lv_aload_n hx hb dL_cutBy_0 rfl (lv_at hl 2 rfl) ?_
  refine lv_iconst (v := 0) hx hb dL_cutBy_1 (by decide) ?_
  refine lv_aload_n hx hb dL_cutBy_2 rfl (lv_at hl 0 rfl) ?_
  refine lv_iload_n hx hb dL_cutBy_3 rfl (lv_at hl 1 rfl) ?_
  refine gx_i (wr := []) (rVx (rest := [.int 0, .ref q3]) hx hb hml hown hE hP hD hS hA hz 9 rfl rfl (c1690_X9_cutBy l g hlx q1 q15 q16 q20 q23 q34 q35 q36 q37 q47 x2 w5 w7 w8 w9 w10 w11 w13 w14 w19 w24 w26 w30 w31 w32 w33 w38 w39 w40 w41 w43 w44 f21 f45 f48 (hf22) h49 s.heap.size) (kV_X9_cutBy hE (e896 hE) rfl rfl ⟨(Nat.le_of_ble_eq_true rfl), (Nat.le_of_ble_eq_true rfl)⟩) [0, 1, 2, 3, 4, 5, 6, 7, 8, 9] rfl (by decide) rfl hl.1 rfl (lv_room (Nat.le_of_ble_eq_true rfl)) dL_cutBy_4 ⟨(Nat.le_of_ble_eq_true rfl), (Nat.le_of_ble_eq_true rfl)⟩) hP hD hS hA [0, 1, 2, 3, 4, 5, 6, 7, 8, 9] [] rfl rfl (by decide) (by decide) (fun ce9 q9 H locs hP hD hS hq1 hq2 hq3 => ?_)
  have hP : va_P g.1 vwCl [(q1, .inr (11, [.ref q15, w5, .ref q16, w7, w8, w9, w10, w11, .int 1, w13, w14])), (q20, .inl (g.2 3, 10, .inr (.inr (.inr (.inr f21))))), (q15, .inr (10, [.ref q20, .int 0, w19])), (q23, .inr (8, [w38, w39, w40, w41, .int 0, w43, w44])), (q35, .inl (g.2 0, 8, .inl (fillF 8 (-1) f48))), (q34, .inl (g.2 0, 300, .inl (fillF 300 (-1) f48))), (q47, .inl (g.2 1, 300, .inr (.inl f45))), (q37, .inr (3, [.ref q47])), (q36, .inl (g.2 1, 300, .inr (.inl f45))), (q16, .inr (7, [w24, .ref q34, w26, .ref q35, .ref q36, .ref q37, .int 0, .int 0, .int 0, .int 0]))] H := hP
  have hD : va_D A [(q1, .inr (11, [.ref q15, w5, .ref q16, w7, w8, w9, w10, w11, .int 1, w13, w14])), (q20, .inl (g.2 3, 10, .inr (.inr (.inr (.inr f21))))), (q15, .inr (10, [.ref q20, .int 0, w19])), (q23, .inr (8, [w38, w39, w40, w41, .int 0, w43, w44])), (q35, .inl (g.2 0, 8, .inl (fillF 8 (-1) f48))), (q34, .inl (g.2 0, 300, .inl (fillF 300 (-1) f48))), (q47, .inl (g.2 1, 300, .inr (.inl f45))), (q37, .inr (3, [.ref q47])), (q36, .inl (g.2 1, 300, .inr (.inl f45))), (q16, .inr (7, [w24, .ref q34, w26, .ref q35, .ref q36, .ref q37, .int 0, .int 0, .int 0, .int 0]))] := hD
  refine x_catch (name := "java/lang/IndexOutOfBoundsException") (hh := [(0, 9, 12, 13), (0, 9, 15, 39)]) (tgt := 12) hown htb [] ⟨0, 9, 12, 13⟩ [⟨0, 9, 15, 39⟩] rfl (fun _ h => nomatch h) rfl (by decide) (e532 hE) (e625 hE) hq1 hq2 hq3 rfl ?_
  refine lv_astore_n (lv' := [(3, .ref q9), (0, .ref q1), (1, .int x2), (2, .ref q3)]) hx hb dL_cutBy_12 rfl hl (by decide) rfl (fun ls hl => ?_)
  refine lv_iconst (v := 1) hx hb dL_cutBy_13 (by decide) ?_
  exact x_zret hx hb hr rfl rfl hlocks hP hD hS hAe hsz (Nat.le_of_ble_eq_true rfl) (Nat.le_of_ble_eq_true rfl) (fun _ => 0) [] (by decide) rfl dL_cutBy_14

set_option maxHeartbeats 4000000 in
set_option maxRecDepth 100000 in
theorem c1692_X10_cutBy (l : Launch) (g : gG) (q1 q40 q41 q42 q43 : Nat) (x2 : Int32) (w4 w5 w6 w7 w8 w9 w12 w13 w14 w15 w16 w17 w18 w19 w20 w21 w22 w23 w24 w25 w26 w27 w29 w30 w31 w32 w33 w34 w35 w36 w37 w38 w39 : Value) (f44 : Nat → Int32) (f54 : Nat → Int32) (hf45 : f44 0 = 0) (hf46 : f44 49 = 0) (hf47 : f44 98 = 0) (hf48 : f44 147 = 0) (hf49 : f44 196 = 0) (hf50 : f44 245 = 0) (hf51 : f44 294 = 0) (hf52 : f44 343 = 0) (hf53 : f44 392 = 0) (hf55 : f54 0 = 0) (hf56 : f54 1 = 0) (hf57 : f54 2 = 0) (hf58 : f54 3 = 0) (hf59 : f54 4 = 0) (hf60 : f54 5 = 0) (hf61 : f54 6 = 0) (hf62 : f54 7 = 0) (h63 : x2 < 0) (sz : Nat) : Met l yX10_cutBy [Cond.code yX10_cutBy cX10_cutBy 2 (some .int)] ({ frames := 5, cells := 0, slots := 0, locals := 110 } : Room) (va_Pc [.ref q1, .int x2] (PX g sz [(q43, .inl (g.2 0, 8, .inl f54)), (q42, .inl (g.2 0, 8, .inl f54)), (q41, .inl (g.2 0, 8, .inl f54)), (q40, .inl (g.2 0, 497, .inl f44)), (q1, .inr (12, [.ref q40, w4, w5, w6, w7, w8, w9, .ref q41, .ref q42, w12, w13, w14, w15, w16, w17, w18, w19, w20, w21, w22, w23, w24, w25, w26, w27, .ref q43, w29, w30, w31, w32, w33, w34, w35, w36, w37, w38, w39]))])) (QI g [(q43, .inl (g.2 0, 8, .inl f54)), (q42, .inl (g.2 0, 8, .inl f54)), (q41, .inl (g.2 0, 8, .inl f54)), (q40, .inl (g.2 0, 497, .inl f44)), (q1, .inr (12, [.ref q40, w4, w5, w6, w7, w8, w9, .ref q41, .ref q42, w12, w13, w14, w15, w16, w17, w18, w19, w20, w21, w22, w23, w24, w25, w26, w27, .ref q43, w29, w30, w31, w32, w33, w34, w35, w36, w37, w38, w39]))] sz 0 (fun _ => [(q1, .inr (12, [.ref q40, w4, w5, w6, w7, w8, .int 1, .ref q41, .ref q42, w12, w13, w14, w15, w16, .int 0, w18, w19, w20, w21, w22, w23, w24, w25, w26, w27, .ref q43, w29, w30, w31, w32, w33, w34, w35, w36, w37, w38, w39]))])) 0 0 (va_A [(q43, .inl (g.2 0, 8, .inl f54)), (q42, .inl (g.2 0, 8, .inl f54)), (q41, .inl (g.2 0, 8, .inl f54)), (q40, .inl (g.2 0, 497, .inl f44)), (q1, .inr (12, [.ref q40, w4, w5, w6, w7, w8, w9, .ref q41, .ref q42, w12, w13, w14, w15, w16, w17, w18, w19, w20, w21, w22, w23, w24, w25, w26, w27, .ref q43, w29, w30, w31, w32, w33, w34, w35, w36, w37, w38, w39]))] sz) := by
  refine ofN (by decide) (Nat.le_of_ble_eq_true rfl) rfl ?_
  intro p e s m args below meth c A ls hAe hsz hx hb hml hr hlocks hin hown hE hP hD hA hS hl
  have hown : s.vm.findClass RX10 = some m.cls := hown
  refine lv_aload_n hx hb dX10_cutBy_0 rfl (lv_at hl 0 rfl) ?_
  refine lv_aload_n hx hb dX10_cutBy_1 rfl (lv_at hl 0 rfl) ?_
  refine lv_iload_n hx hb dX10_cutBy_2 rfl (lv_at hl 1 rfl) ?_
  refine g_i (wr := []) (rV (rest := [.ref q1]) hx hb hml hown hE hP hD 4 rfl rfl (c1678_X10_isNote l g q1 q40 q41 q42 q43 x2 w4 w5 w6 w7 w8 w9 w12 w13 w14 w15 w16 w17 w18 w19 w20 w21 w22 w23 w24 w25 w26 w27 w29 w30 w31 w32 w33 w34 w35 w36 w37 w38 w39 f44 f54 (hf45) (hf46) (hf47) (hf48) (hf49) (hf50) (hf51) (hf52) (hf53) (hf55) (hf56) (hf57) (hf58) (hf59) (hf60) (hf61) (hf62) h63 s.heap.size) (kV_X10_isNote hE (e1596 hE) rfl rfl ⟨(Nat.le_of_ble_eq_true rfl), (Nat.le_of_ble_eq_true rfl)⟩) [0, 1, 2, 3, 4] rfl (by decide) rfl hl.1 rfl (lv_room (Nat.le_of_ble_eq_true rfl)) dX10_cutBy_3 ⟨(Nat.le_of_ble_eq_true rfl), (Nat.le_of_ble_eq_true rfl)⟩) hP hD hS hA [0, 1, 2, 3, 4] [] rfl rfl (by decide) (by decide) (fun u1 H locs hP hD hS => ?_)
  have hP : va_P g.1 vwCl [(q42, .inl (g.2 0, 8, .inl f54)), (q41, .inl (g.2 0, 8, .inl f54)), (q40, .inl (g.2 0, 497, .inl f44)), (q43, .inl (g.2 0, 8, .inl (upd (upd (upd (upd (upd (upd (upd (upd f54 0 (-1)) 1 (-1)) 2 (-1)) 3 (-1)) 4 (-1)) 5 (-1)) 6 (-1)) 7 (-1)))), (q1, .inr (12, [.ref q40, w4, w5, w6, w7, w8, w9, .ref q41, .ref q42, w12, w13, w14, w15, w16, .int 0, w18, w19, w20, w21, w22, w23, w24, w25, w26, w27, .ref q43, w29, w30, w31, w32, w33, w34, w35, w36, w37, w38, w39]))] H := hP
  have hD : va_D A [(q42, .inl (g.2 0, 8, .inl f54)), (q41, .inl (g.2 0, 8, .inl f54)), (q40, .inl (g.2 0, 497, .inl f44)), (q43, .inl (g.2 0, 8, .inl (upd (upd (upd (upd (upd (upd (upd (upd f54 0 (-1)) 1 (-1)) 2 (-1)) 3 (-1)) 4 (-1)) 5 (-1)) 6 (-1)) 7 (-1)))), (q1, .inr (12, [.ref q40, w4, w5, w6, w7, w8, w9, .ref q41, .ref q42, w12, w13, w14, w15, w16, .int 0, w18, w19, w20, w21, w22, w23, w24, w25, w26, w27, .ref q43, w29, w30, w31, w32, w33, w34, w35, w36, w37, w38, w39]))] := hD
  refine lv_if_ne (tgt := 13) hx hb dX10_cutBy_6 (by decide) (fun h => absurd h (by decide)) (fun _ => ?_)
  refine lv_iconst (v := 1) hx hb dX10_cutBy_9 (by decide) ?_
  refine lv_goto (tgt := 27) hx hb dX10_cutBy_10 (by decide) ?_
  refine pf_RX10_86 (ws' := [(q42, .inl (g.2 0, 8, .inl f54)), (q41, .inl (g.2 0, 8, .inl f54)), (q40, .inl (g.2 0, 497, .inl f44)), (q43, .inl (g.2 0, 8, .inl (upd (upd (upd (upd (upd (upd (upd (upd f54 0 (-1)) 1 (-1)) 2 (-1)) 3 (-1)) 4 (-1)) 5 (-1)) 6 (-1)) 7 (-1)))), (q1, .inr (12, [.ref q40, w4, w5, w6, w7, w8, .int 1, .ref q41, .ref q42, w12, w13, w14, w15, w16, .int 0, w18, w19, w20, w21, w22, w23, w24, w25, w26, w27, .ref q43, w29, w30, w31, w32, w33, w34, w35, w36, w37, w38, w39]))]) hx hb hown hE hP hD hS 4 rfl rfl rfl (Nat.le_of_ble_eq_true rfl) dX10_cutBy_27 rfl (fun H locs hP hD hS => ?_)
  refine lv_aload_n hx hb dX10_cutBy_30 rfl (lv_at hl 0 rfl) ?_
  refine gf_RX10_86 hx hb hown hE hP 4 rfl rfl dX10_cutBy_31 ?_
  refine lv_if_le (tgt := 41) hx hb dX10_cutBy_34 (by decide) (fun h => absurd h (by decide)) (fun _ => ?_)
  refine lv_iconst (v := 0) hx hb dX10_cutBy_37 (by decide) ?_
  refine lv_goto (tgt := 47) hx hb dX10_cutBy_38 (by decide) ?_
  exact x_zret hx hb hr rfl rfl hlocks hP hD hS hAe hsz (Nat.le_of_ble_eq_true rfl) (Nat.le_of_ble_eq_true rfl) (fun _ => 0) [4] (by decide) rfl dX10_cutBy_47

set_option maxHeartbeats 4000000 in
set_option maxRecDepth 100000 in
theorem c1693_X9_cutBy (l : Launch) (g : gG) (hlx : l.stackTraces = false) (q1 q14 q15 q19 q22 q33 q34 q35 q36 q46 : Nat) (x2 : Int32) (w4 w6 w7 w8 w9 w10 w12 w13 w18 w23 w25 w29 w30 w31 w32 w37 w38 w39 w40 w42 w43 : Value) (f20 : Nat → Option Nat) (f44 : Nat → Int64) (f47 : Nat → Int32) (hf21 : f20 0 = some q22) (h48 : (0 : Int32) ≤ x2) (sz : Nat) : vx_Met l yX9_cutBy [Cond.code yX9_cutBy cX9_cutBy 4 (some .int)] ({ frames := 7, cells := 1, slots := 6, locals := 121 } : Room) (va_Pc [.ref q1, .int x2] (PZ g sz [(q33, .inl (g.2 0, 300, .inl f47)), (q34, .inl (g.2 0, 8, .inl f47)), (q46, .inl (g.2 1, 300, .inr (.inl f44))), (q36, .inr (3, [.ref q46])), (q35, .inl (g.2 1, 300, .inr (.inl f44))), (q22, .inr (8, [w37, w38, w39, w40, .int 0, w42, w43])), (q15, .inr (7, [w23, .ref q33, w25, .ref q34, .ref q35, .ref q36, w29, w30, w31, w32])), (q19, .inl (g.2 3, 10, .inr (.inr (.inr (.inr f20))))), (q14, .inr (10, [.ref q19, .int 0, w18])), (q1, .inr (11, [.ref q14, w4, .ref q15, w6, w7, w8, w9, w10, .int 0, w12, w13]))])) NI (XW g [(q33, .inl (g.2 0, 300, .inl f47)), (q34, .inl (g.2 0, 8, .inl f47)), (q46, .inl (g.2 1, 300, .inr (.inl f44))), (q36, .inr (3, [.ref q46])), (q35, .inl (g.2 1, 300, .inr (.inl f44))), (q22, .inr (8, [w37, w38, w39, w40, .int 0, w42, w43])), (q15, .inr (7, [w23, .ref q33, w25, .ref q34, .ref q35, .ref q36, w29, w30, w31, w32])), (q19, .inl (g.2 3, 10, .inr (.inr (.inr (.inr f20))))), (q14, .inr (10, [.ref q19, .int 0, w18])), (q1, .inr (11, [.ref q14, w4, .ref q15, w6, w7, w8, w9, w10, .int 0, w12, w13]))] sz "java/lang/IndexOutOfBoundsException" [(q1, .inr (11, [.ref q14, w4, .ref q15, w6, w7, w8, w9, w10, .int 1, w12, w13])), (q19, .inl (g.2 3, 10, .inr (.inr (.inr (.inr f20))))), (q14, .inr (10, [.ref q19, .int 0, w18])), (q22, .inr (8, [w37, w38, w39, w40, .int 0, w42, w43])), (q34, .inl (g.2 0, 8, .inl (fillF 8 (-1) f47))), (q33, .inl (g.2 0, 300, .inl (fillF 300 (-1) f47))), (q46, .inl (g.2 1, 300, .inr (.inl f44))), (q36, .inr (3, [.ref q46])), (q35, .inl (g.2 1, 300, .inr (.inl f44))), (q15, .inr (7, [w23, .ref q33, w25, .ref q34, .ref q35, .ref q36, .int 0, .int 0, .int 0, .int 0]))]) 1 6 (va_A [(q33, .inl (g.2 0, 300, .inl f47)), (q34, .inl (g.2 0, 8, .inl f47)), (q46, .inl (g.2 1, 300, .inr (.inl f44))), (q36, .inr (3, [.ref q46])), (q35, .inl (g.2 1, 300, .inr (.inl f44))), (q22, .inr (8, [w37, w38, w39, w40, .int 0, w42, w43])), (q15, .inr (7, [w23, .ref q33, w25, .ref q34, .ref q35, .ref q36, w29, w30, w31, w32])), (q19, .inl (g.2 3, 10, .inr (.inr (.inr (.inr f20))))), (q14, .inr (10, [.ref q19, .int 0, w18])), (q1, .inr (11, [.ref q14, w4, .ref q15, w6, w7, w8, w9, w10, .int 0, w12, w13]))] sz) := by
  refine ofX (by decide) (Nat.le_of_ble_eq_true rfl) rfl ?_
  intro p e s m args below meth c A ls hAe hsz hx hb hml hr hlocks hin hown hE hP hD hA hS hl hex hz
  have hown : s.vm.findClass RX9 = some m.cls := hown
  refine lv_aload_n hx hb dX9_cutBy_0 rfl (lv_at hl 0 rfl) ?_
  refine g_r (wr := []) (rV (rest := []) hx hb hml hown hE hP hD 9 rfl rfl (c1638_X9_upToDateScore l g q1 q14 q19 q22 q15 q36 q35 q46 q34 q33 w4 w6 w7 w8 w9 w10 w12 w13 w18 w23 w25 w29 w30 w31 w32 w37 w38 w39 w40 w42 w43 f20 f44 f47 (hf21) s.heap.size) (kV_X9_upToDateScore hE (e318 hE) rfl rfl ⟨(Nat.le_of_ble_eq_true rfl), (Nat.le_of_ble_eq_true rfl)⟩) [0, 1, 2, 3, 4, 5, 6, 7, 8, 9] rfl (by decide) rfl hl.1 rfl (lv_room (Nat.le_of_ble_eq_true rfl)) dX9_cutBy_1 ⟨(Nat.le_of_ble_eq_true rfl), (Nat.le_of_ble_eq_true rfl)⟩) hP hD hS hA [0, 1, 2, 3, 4, 5, 6, 7, 8, 9] [] rfl rfl (by decide) (by decide) (fun u1 H locs hP hD hS => ?_)
  have hP : va_P g.1 vwCl [(q1, .inr (11, [.ref q14, w4, .ref q15, w6, w7, w8, w9, w10, .int 1, w12, w13])), (q19, .inl (g.2 3, 10, .inr (.inr (.inr (.inr f20))))), (q14, .inr (10, [.ref q19, .int 0, w18])), (q22, .inr (8, [w37, w38, w39, w40, .int 0, w42, w43])), (q15, .inr (7, [w23, .ref q33, w25, .ref q34, .ref q35, .ref q36, .int 0, .int 0, .int 0, .int 0])), (q34, .inl (g.2 0, 8, .inl (fillF 8 (-1) f47))), (q33, .inl (g.2 0, 300, .inl (fillF 300 (-1) f47))), (q46, .inl (g.2 1, 300, .inr (.inl f44))), (q36, .inr (3, [.ref q46])), (q35, .inl (g.2 1, 300, .inr (.inl f44)))] H := hP
  have hD : va_D A [(q1, .inr (11, [.ref q14, w4, .ref q15, w6, w7, w8, w9, w10, .int 1, w12, w13])), (q19, .inl (g.2 3, 10, .inr (.inr (.inr (.inr f20))))), (q14, .inr (10, [.ref q19, .int 0, w18])), (q22, .inr (8, [w37, w38, w39, w40, .int 0, w42, w43])), (q15, .inr (7, [w23, .ref q33, w25, .ref q34, .ref q35, .ref q36, .int 0, .int 0, .int 0, .int 0])), (q34, .inl (g.2 0, 8, .inl (fillF 8 (-1) f47))), (q33, .inl (g.2 0, 300, .inl (fillF 300 (-1) f47))), (q46, .inl (g.2 1, 300, .inr (.inl f44))), (q36, .inr (3, [.ref q46])), (q35, .inl (g.2 1, 300, .inr (.inl f44)))] := hD
  refine lv_astore_n (lv' := [(2, .ref q15), (0, .ref q1), (1, .int x2)]) hx hb dX9_cutBy_4 rfl hl (by decide) rfl (fun ls hl => ?_)
  refine lv_iload_n hx hb dX9_cutBy_5 rfl (lv_at hl 2 rfl) ?_
  refine lv_aload_n hx hb dX9_cutBy_6 rfl (lv_at hl 0 rfl) ?_
  refine g_i (wr := [(q1, .inr (11, [.ref q14, w4, .ref q15, w6, w7, w8, w9, w10, .int 1, w12, w13])), (q19, .inl (g.2 3, 10, .inr (.inr (.inr (.inr f20))))), (q14, .inr (10, [.ref q19, .int 0, w18])), (q22, .inr (8, [w37, w38, w39, w40, .int 0, w42, w43])), (q34, .inl (g.2 0, 8, .inl (fillF 8 (-1) f47))), (q33, .inl (g.2 0, 300, .inl (fillF 300 (-1) f47))), (q46, .inl (g.2 1, 300, .inr (.inl f44))), (q36, .inr (3, [.ref q46])), (q35, .inl (g.2 1, 300, .inr (.inl f44)))]) (rV (rest := [.int x2]) hx hb hml hown hE hP hD 4 rfl rfl (c1639_X5_noteCount l g q15 w23 (.ref q33) w25 (.ref q34) (.ref q35) (.ref q36) (.int 0) (.int 0) (.int 0) H.size) (kV_X5_noteCount hE (e856 hE) rfl rfl ⟨(Nat.le_of_ble_eq_true rfl), (Nat.le_of_ble_eq_true rfl)⟩) [4] rfl (by decide) rfl hl.1 rfl (lv_room (Nat.le_of_ble_eq_true rfl)) dX9_cutBy_7 ⟨(Nat.le_of_ble_eq_true rfl), (Nat.le_of_ble_eq_true rfl)⟩) hP hD hS hA [4] [0, 1, 2, 3, 5, 6, 7, 8, 9] rfl rfl (by decide) (by decide) (fun u2 H locs hP hD hS => ?_)
  have hP : va_P g.1 vwCl [(q1, .inr (11, [.ref q14, w4, .ref q15, w6, w7, w8, w9, w10, .int 1, w12, w13])), (q19, .inl (g.2 3, 10, .inr (.inr (.inr (.inr f20))))), (q14, .inr (10, [.ref q19, .int 0, w18])), (q22, .inr (8, [w37, w38, w39, w40, .int 0, w42, w43])), (q34, .inl (g.2 0, 8, .inl (fillF 8 (-1) f47))), (q33, .inl (g.2 0, 300, .inl (fillF 300 (-1) f47))), (q46, .inl (g.2 1, 300, .inr (.inl f44))), (q36, .inr (3, [.ref q46])), (q35, .inl (g.2 1, 300, .inr (.inl f44))), (q15, .inr (7, [w23, .ref q33, w25, .ref q34, .ref q35, .ref q36, .int 0, .int 0, .int 0, .int 0]))] H := hP
  have hD : va_D A [(q1, .inr (11, [.ref q14, w4, .ref q15, w6, w7, w8, w9, w10, .int 1, w12, w13])), (q19, .inl (g.2 3, 10, .inr (.inr (.inr (.inr f20))))), (q14, .inr (10, [.ref q19, .int 0, w18])), (q22, .inr (8, [w37, w38, w39, w40, .int 0, w42, w43])), (q34, .inl (g.2 0, 8, .inl (fillF 8 (-1) f47))), (q33, .inl (g.2 0, 300, .inl (fillF 300 (-1) f47))), (q46, .inl (g.2 1, 300, .inr (.inl f44))), (q36, .inr (3, [.ref q46])), (q35, .inl (g.2 1, 300, .inr (.inl f44))), (q15, .inr (7, [w23, .ref q33, w25, .ref q34, .ref q35, .ref q36, .int 0, .int 0, .int 0, .int 0]))] := hD
  refine gx_v (wr := [(q1, .inr (11, [.ref q14, w4, .ref q15, w6, w7, w8, w9, w10, .int 1, w12, w13])), (q19, .inl (g.2 3, 10, .inr (.inr (.inr (.inr f20))))), (q14, .inr (10, [.ref q19, .int 0, w18])), (q22, .inr (8, [w37, w38, w39, w40, .int 0, w42, w43])), (q34, .inl (g.2 0, 8, .inl (fillF 8 (-1) f47))), (q33, .inl (g.2 0, 300, .inl (fillF 300 (-1) f47))), (q46, .inl (g.2 1, 300, .inr (.inl f44))), (q36, .inr (3, [.ref q46])), (q35, .inl (g.2 1, 300, .inr (.inl f44))), (q15, .inr (7, [w23, .ref q33, w25, .ref q34, .ref q35, .ref q36, .int 0, .int 0, .int 0, .int 0]))]) (rSx (rest := []) hx hb hml hown hE hP hD hS hA hz (c1169_X9_requireIndex l g hlx x2 h48 H.size) (kS_X9_requireIndex hE (e620 hE) rfl rfl ⟨(Nat.le_of_ble_eq_true rfl), (Nat.le_of_ble_eq_true rfl)⟩) [] rfl (by decide) rfl hl.1 rfl (lv_room (Nat.le_of_ble_eq_true rfl)) dX9_cutBy_10 ⟨(Nat.le_of_ble_eq_true rfl), (Nat.le_of_ble_eq_true rfl)⟩) hP hD hS hA [] [0, 1, 2, 3, 4, 5, 6, 7, 8, 9] rfl rfl (by decide) (by decide) (fun ce9 q9 H locs hP hD hS hq1 hq2 hq3 => ?_)
  exact x_out hex hlocks hq1 hq2 hq3 hP hD hS hAe hsz (Nat.le_of_ble_eq_true rfl) (Nat.le_of_ble_eq_true rfl) [0, 1, 2, 3, 4, 5, 6, 7, 8, 9] (by decide) rfl

set_option maxHeartbeats 4000000 in
set_option maxRecDepth 100000 in
theorem c1694_L_cutBy (l : Launch) (g : gG) (hlx : l.stackTraces = false) (q1 q3 q15 q16 q20 q23 q34 q35 q36 q37 q47 : Nat) (x2 : Int32) (w5 w7 w8 w9 w10 w11 w13 w14 w19 w24 w26 w30 w31 w32 w33 w38 w39 w40 w41 w43 w44 : Value) (f21 : Nat → Option Nat) (f45 : Nat → Int64) (f48 : Nat → Int32) (hf22 : f21 0 = some q23) (h49 : (0 : Int32) ≤ x2) (sz : Nat) : Met l yL_cutBy [Cond.codeWith yL_cutBy cL_cutBy 4 (some .int) [(0, 9, 12, 13), (0, 9, 15, 39)]] ({ frames := 8, cells := 1, slots := 6, locals := 144 } : Room) (va_Pc [.ref q1, .int x2, .ref q3] (PZ g sz [(q34, .inl (g.2 0, 300, .inl f48)), (q35, .inl (g.2 0, 8, .inl f48)), (q47, .inl (g.2 1, 300, .inr (.inl f45))), (q37, .inr (3, [.ref q47])), (q36, .inl (g.2 1, 300, .inr (.inl f45))), (q23, .inr (8, [w38, w39, w40, w41, .int 0, w43, w44])), (q16, .inr (7, [w24, .ref q34, w26, .ref q35, .ref q36, .ref q37, w30, w31, w32, w33])), (q20, .inl (g.2 3, 10, .inr (.inr (.inr (.inr f21))))), (q15, .inr (10, [.ref q20, .int 0, w19])), (q1, .inr (11, [.ref q15, w5, .ref q16, w7, w8, w9, w10, w11, .int 0, w13, w14]))])) (QI g [(q34, .inl (g.2 0, 300, .inl f48)), (q35, .inl (g.2 0, 8, .inl f48)), (q47, .inl (g.2 1, 300, .inr (.inl f45))), (q37, .inr (3, [.ref q47])), (q36, .inl (g.2 1, 300, .inr (.inl f45))), (q23, .inr (8, [w38, w39, w40, w41, .int 0, w43, w44])), (q16, .inr (7, [w24, .ref q34, w26, .ref q35, .ref q36, .ref q37, w30, w31, w32, w33])), (q20, .inl (g.2 3, 10, .inr (.inr (.inr (.inr f21))))), (q15, .inr (10, [.ref q20, .int 0, w19])), (q1, .inr (11, [.ref q15, w5, .ref q16, w7, w8, w9, w10, w11, .int 0, w13, w14]))] sz 1 (fun _ => [])) 1 6 (va_A [(q34, .inl (g.2 0, 300, .inl f48)), (q35, .inl (g.2 0, 8, .inl f48)), (q47, .inl (g.2 1, 300, .inr (.inl f45))), (q37, .inr (3, [.ref q47])), (q36, .inl (g.2 1, 300, .inr (.inl f45))), (q23, .inr (8, [w38, w39, w40, w41, .int 0, w43, w44])), (q16, .inr (7, [w24, .ref q34, w26, .ref q35, .ref q36, .ref q37, w30, w31, w32, w33])), (q20, .inl (g.2 3, 10, .inr (.inr (.inr (.inr f21))))), (q15, .inr (10, [.ref q20, .int 0, w19])), (q1, .inr (11, [.ref q15, w5, .ref q16, w7, w8, w9, w10, w11, .int 0, w13, w14]))] sz) := by
  refine ofH (by decide) (Nat.le_of_ble_eq_true rfl) rfl ?_
  intro p e s m args below meth c A ls hAe hsz hx hb hml hr hlocks hin hown hE hP hD hA hS hl htb hz
  have hown : s.vm.findClass RL = some m.cls := hown
  refine lv_aload_n hx hb dL_cutBy_0 rfl (lv_at hl 2 rfl) ?_
  refine lv_iconst (v := 0) hx hb dL_cutBy_1 (by decide) ?_
  refine lv_aload_n hx hb dL_cutBy_2 rfl (lv_at hl 0 rfl) ?_
  refine lv_iload_n hx hb dL_cutBy_3 rfl (lv_at hl 1 rfl) ?_
  refine gx_i (wr := []) (rVx (rest := [.int 0, .ref q3]) hx hb hml hown hE hP hD hS hA hz 9 rfl rfl (c1693_X9_cutBy l g hlx q1 q15 q16 q20 q23 q34 q35 q36 q37 q47 x2 w5 w7 w8 w9 w10 w11 w13 w14 w19 w24 w26 w30 w31 w32 w33 w38 w39 w40 w41 w43 w44 f21 f45 f48 (hf22) h49 s.heap.size) (kV_X9_cutBy hE (e896 hE) rfl rfl ⟨(Nat.le_of_ble_eq_true rfl), (Nat.le_of_ble_eq_true rfl)⟩) [0, 1, 2, 3, 4, 5, 6, 7, 8, 9] rfl (by decide) rfl hl.1 rfl (lv_room (Nat.le_of_ble_eq_true rfl)) dL_cutBy_4 ⟨(Nat.le_of_ble_eq_true rfl), (Nat.le_of_ble_eq_true rfl)⟩) hP hD hS hA [0, 1, 2, 3, 4, 5, 6, 7, 8, 9] [] rfl rfl (by decide) (by decide) (fun ce9 q9 H locs hP hD hS hq1 hq2 hq3 => ?_)
  have hP : va_P g.1 vwCl [(q1, .inr (11, [.ref q15, w5, .ref q16, w7, w8, w9, w10, w11, .int 1, w13, w14])), (q20, .inl (g.2 3, 10, .inr (.inr (.inr (.inr f21))))), (q15, .inr (10, [.ref q20, .int 0, w19])), (q23, .inr (8, [w38, w39, w40, w41, .int 0, w43, w44])), (q35, .inl (g.2 0, 8, .inl (fillF 8 (-1) f48))), (q34, .inl (g.2 0, 300, .inl (fillF 300 (-1) f48))), (q47, .inl (g.2 1, 300, .inr (.inl f45))), (q37, .inr (3, [.ref q47])), (q36, .inl (g.2 1, 300, .inr (.inl f45))), (q16, .inr (7, [w24, .ref q34, w26, .ref q35, .ref q36, .ref q37, .int 0, .int 0, .int 0, .int 0]))] H := hP
  have hD : va_D A [(q1, .inr (11, [.ref q15, w5, .ref q16, w7, w8, w9, w10, w11, .int 1, w13, w14])), (q20, .inl (g.2 3, 10, .inr (.inr (.inr (.inr f21))))), (q15, .inr (10, [.ref q20, .int 0, w19])), (q23, .inr (8, [w38, w39, w40, w41, .int 0, w43, w44])), (q35, .inl (g.2 0, 8, .inl (fillF 8 (-1) f48))), (q34, .inl (g.2 0, 300, .inl (fillF 300 (-1) f48))), (q47, .inl (g.2 1, 300, .inr (.inl f45))), (q37, .inr (3, [.ref q47])), (q36, .inl (g.2 1, 300, .inr (.inl f45))), (q16, .inr (7, [w24, .ref q34, w26, .ref q35, .ref q36, .ref q37, .int 0, .int 0, .int 0, .int 0]))] := hD
  refine x_catch (name := "java/lang/IndexOutOfBoundsException") (hh := [(0, 9, 12, 13), (0, 9, 15, 39)]) (tgt := 12) hown htb [] ⟨0, 9, 12, 13⟩ [⟨0, 9, 15, 39⟩] rfl (fun _ h => nomatch h) rfl (by decide) (e532 hE) (e625 hE) hq1 hq2 hq3 rfl ?_
  refine lv_astore_n (lv' := [(3, .ref q9), (0, .ref q1), (1, .int x2), (2, .ref q3)]) hx hb dL_cutBy_12 rfl hl (by decide) rfl (fun ls hl => ?_)
  refine lv_iconst (v := 1) hx hb dL_cutBy_13 (by decide) ?_
  exact x_zret hx hb hr rfl rfl hlocks hP hD hS hAe hsz (Nat.le_of_ble_eq_true rfl) (Nat.le_of_ble_eq_true rfl) (fun _ => 0) [] (by decide) rfl dL_cutBy_14

set_option maxHeartbeats 4000000 in
set_option maxRecDepth 100000 in
theorem c1695_X10_cutBy (l : Launch) (g : gG) (q1 q40 q41 q42 q43 : Nat) (x2 : Int32) (w4 w5 w6 w7 w8 w9 w12 w13 w14 w15 w16 w17 w18 w19 w20 w21 w22 w23 w24 w25 w26 w27 w29 w30 w31 w32 w33 w34 w35 w36 w37 w38 w39 : Value) (f44 : Nat → Int32) (f54 : Nat → Int32) (hf45 : f44 0 = 0) (hf46 : f44 49 = 0) (hf47 : f44 98 = 0) (hf48 : f44 147 = 0) (hf49 : f44 196 = 0) (hf50 : f44 245 = 0) (hf51 : f44 294 = 0) (hf52 : f44 343 = 0) (hf53 : f44 392 = 0) (hf55 : f54 0 = 0) (hf56 : f54 1 = 0) (hf57 : f54 2 = 0) (hf58 : f54 3 = 0) (hf59 : f54 4 = 0) (hf60 : f54 5 = 0) (hf61 : f54 6 = 0) (hf62 : f54 7 = 0) (h63 : (0 : Int32) ≤ x2) (sz : Nat) : Met l yX10_cutBy [Cond.code yX10_cutBy cX10_cutBy 2 (some .int)] ({ frames := 5, cells := 0, slots := 0, locals := 110 } : Room) (va_Pc [.ref q1, .int x2] (PX g sz [(q43, .inl (g.2 0, 8, .inl f54)), (q42, .inl (g.2 0, 8, .inl f54)), (q41, .inl (g.2 0, 8, .inl f54)), (q40, .inl (g.2 0, 497, .inl f44)), (q1, .inr (12, [.ref q40, w4, w5, w6, w7, w8, w9, .ref q41, .ref q42, w12, w13, w14, w15, w16, w17, w18, w19, w20, w21, w22, w23, w24, w25, w26, w27, .ref q43, w29, w30, w31, w32, w33, w34, w35, w36, w37, w38, w39]))])) (QI g [(q43, .inl (g.2 0, 8, .inl f54)), (q42, .inl (g.2 0, 8, .inl f54)), (q41, .inl (g.2 0, 8, .inl f54)), (q40, .inl (g.2 0, 497, .inl f44)), (q1, .inr (12, [.ref q40, w4, w5, w6, w7, w8, w9, .ref q41, .ref q42, w12, w13, w14, w15, w16, w17, w18, w19, w20, w21, w22, w23, w24, w25, w26, w27, .ref q43, w29, w30, w31, w32, w33, w34, w35, w36, w37, w38, w39]))] sz 0 (fun _ => [(q1, .inr (12, [.ref q40, w4, w5, w6, w7, w8, .int 1, .ref q41, .ref q42, w12, w13, w14, w15, w16, .int 0, w18, w19, w20, w21, w22, w23, w24, w25, w26, w27, .ref q43, w29, w30, w31, w32, w33, w34, w35, w36, w37, w38, w39]))])) 0 0 (va_A [(q43, .inl (g.2 0, 8, .inl f54)), (q42, .inl (g.2 0, 8, .inl f54)), (q41, .inl (g.2 0, 8, .inl f54)), (q40, .inl (g.2 0, 497, .inl f44)), (q1, .inr (12, [.ref q40, w4, w5, w6, w7, w8, w9, .ref q41, .ref q42, w12, w13, w14, w15, w16, w17, w18, w19, w20, w21, w22, w23, w24, w25, w26, w27, .ref q43, w29, w30, w31, w32, w33, w34, w35, w36, w37, w38, w39]))] sz) := by
  refine ofN (by decide) (Nat.le_of_ble_eq_true rfl) rfl ?_
  intro p e s m args below meth c A ls hAe hsz hx hb hml hr hlocks hin hown hE hP hD hA hS hl
  have hown : s.vm.findClass RX10 = some m.cls := hown
  refine lv_aload_n hx hb dX10_cutBy_0 rfl (lv_at hl 0 rfl) ?_
  refine lv_aload_n hx hb dX10_cutBy_1 rfl (lv_at hl 0 rfl) ?_
  refine lv_iload_n hx hb dX10_cutBy_2 rfl (lv_at hl 1 rfl) ?_
  refine g_i (wr := []) (rV (rest := [.ref q1]) hx hb hml hown hE hP hD 4 rfl rfl (c1682_X10_isNote l g q1 q40 q41 q42 q43 x2 w4 w5 w6 w7 w8 w9 w12 w13 w14 w15 w16 w17 w18 w19 w20 w21 w22 w23 w24 w25 w26 w27 w29 w30 w31 w32 w33 w34 w35 w36 w37 w38 w39 f44 f54 (hf45) (hf46) (hf47) (hf48) (hf49) (hf50) (hf51) (hf52) (hf53) (hf55) (hf56) (hf57) (hf58) (hf59) (hf60) (hf61) (hf62) h63 s.heap.size) (kV_X10_isNote hE (e1596 hE) rfl rfl ⟨(Nat.le_of_ble_eq_true rfl), (Nat.le_of_ble_eq_true rfl)⟩) [0, 1, 2, 3, 4] rfl (by decide) rfl hl.1 rfl (lv_room (Nat.le_of_ble_eq_true rfl)) dX10_cutBy_3 ⟨(Nat.le_of_ble_eq_true rfl), (Nat.le_of_ble_eq_true rfl)⟩) hP hD hS hA [0, 1, 2, 3, 4] [] rfl rfl (by decide) (by decide) (fun u1 H locs hP hD hS => ?_)
  have hP : va_P g.1 vwCl [(q42, .inl (g.2 0, 8, .inl f54)), (q41, .inl (g.2 0, 8, .inl f54)), (q40, .inl (g.2 0, 497, .inl f44)), (q43, .inl (g.2 0, 8, .inl (upd (upd (upd (upd (upd (upd (upd (upd f54 0 (-1)) 1 (-1)) 2 (-1)) 3 (-1)) 4 (-1)) 5 (-1)) 6 (-1)) 7 (-1)))), (q1, .inr (12, [.ref q40, w4, w5, w6, w7, w8, w9, .ref q41, .ref q42, w12, w13, w14, w15, w16, .int 0, w18, w19, w20, w21, w22, w23, w24, w25, w26, w27, .ref q43, w29, w30, w31, w32, w33, w34, w35, w36, w37, w38, w39]))] H := hP
  have hD : va_D A [(q42, .inl (g.2 0, 8, .inl f54)), (q41, .inl (g.2 0, 8, .inl f54)), (q40, .inl (g.2 0, 497, .inl f44)), (q43, .inl (g.2 0, 8, .inl (upd (upd (upd (upd (upd (upd (upd (upd f54 0 (-1)) 1 (-1)) 2 (-1)) 3 (-1)) 4 (-1)) 5 (-1)) 6 (-1)) 7 (-1)))), (q1, .inr (12, [.ref q40, w4, w5, w6, w7, w8, w9, .ref q41, .ref q42, w12, w13, w14, w15, w16, .int 0, w18, w19, w20, w21, w22, w23, w24, w25, w26, w27, .ref q43, w29, w30, w31, w32, w33, w34, w35, w36, w37, w38, w39]))] := hD
  refine lv_if_ne (tgt := 13) hx hb dX10_cutBy_6 (by decide) (fun h => absurd h (by decide)) (fun _ => ?_)
  refine lv_iconst (v := 1) hx hb dX10_cutBy_9 (by decide) ?_
  refine lv_goto (tgt := 27) hx hb dX10_cutBy_10 (by decide) ?_
  refine pf_RX10_86 (ws' := [(q42, .inl (g.2 0, 8, .inl f54)), (q41, .inl (g.2 0, 8, .inl f54)), (q40, .inl (g.2 0, 497, .inl f44)), (q43, .inl (g.2 0, 8, .inl (upd (upd (upd (upd (upd (upd (upd (upd f54 0 (-1)) 1 (-1)) 2 (-1)) 3 (-1)) 4 (-1)) 5 (-1)) 6 (-1)) 7 (-1)))), (q1, .inr (12, [.ref q40, w4, w5, w6, w7, w8, .int 1, .ref q41, .ref q42, w12, w13, w14, w15, w16, .int 0, w18, w19, w20, w21, w22, w23, w24, w25, w26, w27, .ref q43, w29, w30, w31, w32, w33, w34, w35, w36, w37, w38, w39]))]) hx hb hown hE hP hD hS 4 rfl rfl rfl (Nat.le_of_ble_eq_true rfl) dX10_cutBy_27 rfl (fun H locs hP hD hS => ?_)
  refine lv_aload_n hx hb dX10_cutBy_30 rfl (lv_at hl 0 rfl) ?_
  refine gf_RX10_86 hx hb hown hE hP 4 rfl rfl dX10_cutBy_31 ?_
  refine lv_if_le (tgt := 41) hx hb dX10_cutBy_34 (by decide) (fun h => absurd h (by decide)) (fun _ => ?_)
  refine lv_iconst (v := 0) hx hb dX10_cutBy_37 (by decide) ?_
  refine lv_goto (tgt := 47) hx hb dX10_cutBy_38 (by decide) ?_
  exact x_zret hx hb hr rfl rfl hlocks hP hD hS hAe hsz (Nat.le_of_ble_eq_true rfl) (Nat.le_of_ble_eq_true rfl) (fun _ => 0) [4] (by decide) rfl dX10_cutBy_47

set_option maxHeartbeats 4000000 in
set_option maxRecDepth 100000 in
theorem c1696_X9_setTempo (l : Launch) (g : gG) (hlx : l.stackTraces = false) (q1 : Nat) (x2 x3 : Int32) (h4 : x2 < 0) (sz : Nat) : vx_Met l yX9_setTempo [Cond.code yX9_setTempo cX9_setTempo 5 (some .int)] ({ frames := 7, cells := 1, slots := 6, locals := 122 } : Room) (va_Pc [.ref q1, .int x2, .int x3] (PZ g sz [])) NI (XW g [] sz "java/lang/IllegalArgumentException" []) 1 6 (va_A [] sz) := by
  refine ofX (by decide) (Nat.le_of_ble_eq_true rfl) rfl ?_
  intro p e s m args below meth c A ls hAe hsz hx hb hml hr hlocks hin hown hE hP hD hA hS hl hex hz
  have hown : s.vm.findClass RX9 = some m.cls := hown
  refine lv_iload_n hx hb dX9_setTempo_0 rfl (lv_at hl 1 rfl) ?_
  refine lv_iconst (v := 0) hx hb dX9_setTempo_1 (by decide) ?_
  refine lv_sipush (v := 30000) hx hb dX9_setTempo_2 (by decide) ?_
  refine gx_v (wr := []) (rSx (rest := []) hx hb hml hown hE hP hD hS hA hz (c639_X9_requireRange l g hlx x2 30000 h4 s.heap.size) (kS_X9_requireRange hE (e636 hE) rfl rfl ⟨(Nat.le_of_ble_eq_true rfl), (Nat.le_of_ble_eq_true rfl)⟩) [] rfl (by decide) rfl hl.1 rfl (lv_room (Nat.le_of_ble_eq_true rfl)) dX9_setTempo_5 ⟨(Nat.le_of_ble_eq_true rfl), (Nat.le_of_ble_eq_true rfl)⟩) hP hD hS hA [] [] rfl rfl (by decide) (by decide) (fun ce9 q9 H locs hP hD hS hq1 hq2 hq3 => ?_)
  exact x_out hex hlocks hq1 hq2 hq3 hP hD hS hAe hsz (Nat.le_of_ble_eq_true rfl) (Nat.le_of_ble_eq_true rfl) [] (by decide) rfl

set_option maxHeartbeats 4000000 in
set_option maxRecDepth 100000 in
theorem c1697_L_setTempo (l : Launch) (g : gG) (hlx : l.stackTraces = false) (q1 q4 : Nat) (x2 x3 : Int32) (w6 w7 w8 w9 w10 w11 w12 w13 w14 w15 w16 : Value) (h5 : x2 < 0) (sz : Nat) : Met l yL_setTempo [Cond.codeWith yL_setTempo cL_setTempo 5 (some .int) [(0, 10, 13, 15), (0, 10, 17, 17)]] ({ frames := 8, cells := 1, slots := 6, locals := 146 } : Room) (va_Pc [.ref q1, .int x2, .int x3, .ref q4] (PZ g sz [(q1, .inr (11, [w6, w7, w8, w9, w10, w11, w12, w13, w14, w15, w16]))])) (QI g [(q1, .inr (11, [w6, w7, w8, w9, w10, w11, w12, w13, w14, w15, w16]))] sz 1 (fun _ => [])) 1 6 (va_A [(q1, .inr (11, [w6, w7, w8, w9, w10, w11, w12, w13, w14, w15, w16]))] sz) := by
  refine ofH (by decide) (Nat.le_of_ble_eq_true rfl) rfl ?_
  intro p e s m args below meth c A ls hAe hsz hx hb hml hr hlocks hin hown hE hP hD hA hS hl htb hz
  have hown : s.vm.findClass RL = some m.cls := hown
  refine lv_aload_n hx hb dL_setTempo_0 rfl (lv_at hl 3 rfl) ?_
  refine lv_iconst (v := 0) hx hb dL_setTempo_1 (by decide) ?_
  refine lv_aload_n hx hb dL_setTempo_2 rfl (lv_at hl 0 rfl) ?_
  refine lv_iload_n hx hb dL_setTempo_3 rfl (lv_at hl 1 rfl) ?_
  refine lv_iload_n hx hb dL_setTempo_4 rfl (lv_at hl 2 rfl) ?_
  refine gx_i (wr := [(q1, .inr (11, [w6, w7, w8, w9, w10, w11, w12, w13, w14, w15, w16]))]) (rVx (rest := [.int 0, .ref q4]) hx hb hml hown hE hP hD hS hA hz 0 rfl rfl (c1696_X9_setTempo l g hlx q1 x2 x3 h5 s.heap.size) (kV_X9_setTempo hE (e904 hE) rfl rfl ⟨(Nat.le_of_ble_eq_true rfl), (Nat.le_of_ble_eq_true rfl)⟩) [] rfl (by decide) rfl hl.1 rfl (lv_room (Nat.le_of_ble_eq_true rfl)) dL_setTempo_5 ⟨(Nat.le_of_ble_eq_true rfl), (Nat.le_of_ble_eq_true rfl)⟩) hP hD hS hA [] [0] rfl rfl (by decide) (by decide) (fun ce9 q9 H locs hP hD hS hq1 hq2 hq3 => ?_)
  have hP : va_P g.1 vwCl [(q1, .inr (11, [w6, w7, w8, w9, w10, w11, w12, w13, w14, w15, w16]))] H := hP
  have hD : va_D A [(q1, .inr (11, [w6, w7, w8, w9, w10, w11, w12, w13, w14, w15, w16]))] := hD
  refine x_catch (name := "java/lang/IllegalArgumentException") (hh := [(0, 10, 13, 15), (0, 10, 17, 17)]) (tgt := 13) hown htb [] ⟨0, 10, 13, 15⟩ [⟨0, 10, 17, 17⟩] rfl (fun _ h => nomatch h) rfl (by decide) (e611 hE) (e641 hE) hq1 hq2 hq3 rfl ?_
  refine lv_astore (lv' := [(4, .ref q9), (0, .ref q1), (1, .int x2), (2, .int x3), (3, .ref q4)]) hx hb dL_setTempo_13 hl (by decide) rfl (fun ls hl => ?_)
  refine lv_iconst (v := 1) hx hb dL_setTempo_15 (by decide) ?_
  exact x_zret hx hb hr rfl rfl hlocks hP hD hS hAe hsz (Nat.le_of_ble_eq_true rfl) (Nat.le_of_ble_eq_true rfl) (fun _ => 0) [] (by decide) rfl dL_setTempo_16

set_option maxHeartbeats 4000000 in
set_option maxRecDepth 100000 in
theorem c1698_X10_setTempo (l : Launch) (g : gG) (q1 : Nat) (x2 x3 : Int32) (w4 w5 w6 w7 w8 w9 w10 w11 w12 w13 w14 w15 w16 w17 w18 w19 w20 w21 w22 w23 w24 w25 w26 w27 w28 w29 w30 w31 w32 w33 w34 w35 w36 w37 w38 w39 w40 : Value) (h41 : x2 < 0) (sz : Nat) : Met l yX10_setTempo [Cond.code yX10_setTempo cX10_setTempo 6 (some .int)] ({ frames := 1, cells := 0, slots := 0, locals := 22 } : Room) (va_Pc [.ref q1, .int x2, .int x3] (PX g sz [(q1, .inr (12, [w4, w5, w6, w7, w8, w9, w10, w11, w12, w13, w14, w15, w16, w17, w18, w19, w20, w21, w22, w23, w24, w25, w26, w27, w28, w29, w30, w31, w32, w33, w34, w35, w36, w37, w38, w39, w40]))])) (QI g [(q1, .inr (12, [w4, w5, w6, w7, w8, w9, w10, w11, w12, w13, w14, w15, w16, w17, w18, w19, w20, w21, w22, w23, w24, w25, w26, w27, w28, w29, w30, w31, w32, w33, w34, w35, w36, w37, w38, w39, w40]))] sz 0 (fun _ => [(q1, .inr (12, [w4, w5, w6, w7, w8, w9, .int 1, w11, w12, w13, w14, w15, w16, w17, w18, w19, w20, w21, w22, w23, w24, w25, w26, w27, w28, w29, w30, w31, w32, w33, w34, w35, w36, w37, w38, w39, w40]))])) 0 0 (va_A [(q1, .inr (12, [w4, w5, w6, w7, w8, w9, w10, w11, w12, w13, w14, w15, w16, w17, w18, w19, w20, w21, w22, w23, w24, w25, w26, w27, w28, w29, w30, w31, w32, w33, w34, w35, w36, w37, w38, w39, w40]))] sz) := by
  refine ofN (by decide) (Nat.le_of_ble_eq_true rfl) rfl ?_
  intro p e s m args below meth c A ls hAe hsz hx hb hml hr hlocks hin hown hE hP hD hA hS hl
  have hown : s.vm.findClass RX10 = some m.cls := hown
  refine lv_aload_n hx hb dX10_setTempo_0 rfl (lv_at hl 0 rfl) ?_
  refine lv_iconst (v := 0) hx hb dX10_setTempo_1 (by decide) ?_
  refine pf_RX10_86 (ws' := [(q1, .inr (12, [w4, w5, w6, w7, w8, w9, .int 0, w11, w12, w13, w14, w15, w16, w17, w18, w19, w20, w21, w22, w23, w24, w25, w26, w27, w28, w29, w30, w31, w32, w33, w34, w35, w36, w37, w38, w39, w40]))]) hx hb hown hE hP hD hS 0 rfl rfl rfl (Nat.le_of_ble_eq_true rfl) dX10_setTempo_2 rfl (fun H locs hP hD hS => ?_)
  refine lv_iload_n hx hb dX10_setTempo_5 rfl (lv_at hl 1 rfl) ?_
  refine lv_iconst (v := 0) hx hb dX10_setTempo_6 (by decide) ?_
  refine lv_sipush (v := 30000) hx hb dX10_setTempo_7 (by decide) ?_
  refine g0_i (rS (rest := []) hx hb hml hown hE hP hD (c642_X10_in l g x2 30000 h41 H.size) (kS_X10_in hE (e1431 hE) rfl rfl ⟨(Nat.le_of_ble_eq_true rfl), (Nat.le_of_ble_eq_true rfl)⟩) [] rfl (by decide) rfl hl.1 rfl (lv_room (Nat.le_of_ble_eq_true rfl)) dX10_setTempo_10 ⟨(Nat.le_of_ble_eq_true rfl), (Nat.le_of_ble_eq_true rfl)⟩) hP hD hS hA (fun u9 H locs hP hS => ?_)
  refine lv_if_eq (tgt := 27) hx hb dX10_setTempo_13 (by decide) (fun _ => ?_) (fun h => absurd (by decide) h)
  refine lv_aload_n hx hb dX10_setTempo_27 rfl (lv_at hl 0 rfl) ?_
  refine lv_iconst (v := 1) hx hb dX10_setTempo_28 (by decide) ?_
  refine g_i (wr := []) (rV (rest := []) hx hb hml hown hE hP hD 0 rfl rfl (c1475_X10_refuse l g q1 w4 w5 w6 w7 w8 w9 (.int 0) w11 w12 w13 w14 w15 w16 w17 w18 w19 w20 w21 w22 w23 w24 w25 w26 w27 w28 w29 w30 w31 w32 w33 w34 w35 w36 w37 w38 w39 w40 H.size) (kV_X10_refuse hE (e1474 hE) rfl rfl ⟨(Nat.le_of_ble_eq_true rfl), (Nat.le_of_ble_eq_true rfl)⟩) [0] rfl (by decide) rfl hl.1 rfl (lv_room (Nat.le_of_ble_eq_true rfl)) dX10_setTempo_29 ⟨(Nat.le_of_ble_eq_true rfl), (Nat.le_of_ble_eq_true rfl)⟩) hP hD hS hA [0] [] rfl rfl (by decide) (by decide) (fun u2 H locs hP hD hS => ?_)
  have hP : va_P g.1 vwCl [(q1, .inr (12, [w4, w5, w6, w7, w8, w9, .int 1, w11, w12, w13, w14, w15, w16, w17, w18, w19, w20, w21, w22, w23, w24, w25, w26, w27, w28, w29, w30, w31, w32, w33, w34, w35, w36, w37, w38, w39, w40]))] H := hP
  have hD : va_D A [(q1, .inr (12, [w4, w5, w6, w7, w8, w9, .int 1, w11, w12, w13, w14, w15, w16, w17, w18, w19, w20, w21, w22, w23, w24, w25, w26, w27, w28, w29, w30, w31, w32, w33, w34, w35, w36, w37, w38, w39, w40]))] := hD
  exact x_zret hx hb hr rfl rfl hlocks hP hD hS hAe hsz (Nat.le_of_ble_eq_true rfl) (Nat.le_of_ble_eq_true rfl) (fun _ => 0) [0] (by decide) rfl dX10_setTempo_32

set_option maxHeartbeats 4000000 in
set_option maxRecDepth 100000 in
theorem c1699_X9_requireRange (l : Launch) (g : gG) (x1 : Int32) (h2 : (0 : Int32) ≤ x1) (h3 : x1 ≤ 30000) (sz : Nat) : Met l yX9_requireRange [Cond.code yX9_requireRange cX9_requireRange 3 none] ({ frames := 0, cells := 0, slots := 0, locals := 0 } : Room) (va_Pc [.int x1, .int 0, .int 30000] (PX g sz [])) (QV g [] sz (fun _ => [])) 0 0 (va_A [] sz) := by
  refine ofN (by decide) (Nat.le_of_ble_eq_true rfl) rfl ?_
  intro p e s m args below meth c A ls hAe hsz hx hb hml hr hlocks hin hown hE hP hD hA hS hl
  have hown : s.vm.findClass RX9 = some m.cls := hown
  refine lv_iload_n hx hb dX9_requireRange_0 rfl (lv_at hl 0 rfl) ?_
  refine lv_iload_n hx hb dX9_requireRange_1 rfl (lv_at hl 1 rfl) ?_
  refine lv_icmp_lt (tgt := 10) hx hb dX9_requireRange_2 (by decide) (fun h => absurd h (i_nlt h2)) (fun _ => ?_)
  refine lv_iload_n hx hb dX9_requireRange_5 rfl (lv_at hl 0 rfl) ?_
  refine lv_iload_n hx hb dX9_requireRange_6 rfl (lv_at hl 2 rfl) ?_
  refine lv_icmp_le (tgt := 21) hx hb dX9_requireRange_7 (by decide) (fun _ => ?_) (fun h => absurd h3 h)
  exact x_vret hx hb hr hlocks hP hD hS hAe hsz (Nat.le_of_ble_eq_true rfl) (Nat.le_of_ble_eq_true rfl) (fun _ => 0) [] (by decide) rfl dX9_requireRange_21

set_option maxHeartbeats 4000000 in
set_option maxRecDepth 100000 in
theorem c1700_X9_requireRange (l : Launch) (g : gG) (hlx : l.stackTraces = false) (x1 : Int32) (h2 : x1 < 1) (sz : Nat) : vx_Met l yX9_requireRange [Cond.code yX9_requireRange cX9_requireRange 3 none] ({ frames := 6, cells := 1, slots := 6, locals := 100 } : Room) (va_Pc [.int x1, .int 1, .int 1000] (PZ g sz [])) NV (XW g [] sz "java/lang/IllegalArgumentException" []) 1 6 (va_A [] sz) := by
  refine ofX (by decide) (Nat.le_of_ble_eq_true rfl) rfl ?_
  intro p e s m args below meth c A ls hAe hsz hx hb hml hr hlocks hin hown hE hP hD hA hS hl hex hz
  have hown : s.vm.findClass RX9 = some m.cls := hown
  refine lv_iload_n hx hb dX9_requireRange_0 rfl (lv_at hl 0 rfl) ?_
  refine lv_iload_n hx hb dX9_requireRange_1 rfl (lv_at hl 1 rfl) ?_
  refine lv_icmp_lt (tgt := 10) hx hb dX9_requireRange_2 (by decide) (fun _ => ?_) (fun h => absurd h2 h)
  exact x_throwW (text := "a number is out of range") (names := ["java/lang/RuntimeException", "java/lang/Exception"]) hx hb hlx hown hE (by decide) (by decide) (e639 hE) (e20 hE) (by decide +kernel) (th_215 hE) tg_215_211 hz (by rw [hml]; exact hl.1) dX9_requireRange_10 dX9_requireRange_13 dX9_requireRange_14 dX9_requireRange_17 dX9_requireRange_20 hex (Nat.le_of_ble_eq_true rfl) (Nat.le_of_ble_eq_true rfl) (Nat.le_of_ble_eq_true rfl) (Nat.le_of_ble_eq_true rfl) hlocks hP hD hS hAe hsz (Nat.le_of_ble_eq_true rfl) (Nat.le_of_ble_eq_true rfl) [] (by decide) rfl

set_option maxHeartbeats 4000000 in
set_option maxRecDepth 100000 in
theorem c1701_X9_setTempo (l : Launch) (g : gG) (hlx : l.stackTraces = false) (q1 : Nat) (x2 x3 : Int32) (h4 : (0 : Int32) ≤ x2) (h5 : x2 ≤ 30000) (h6 : x3 < 1) (sz : Nat) : vx_Met l yX9_setTempo [Cond.code yX9_setTempo cX9_setTempo 5 (some .int)] ({ frames := 7, cells := 1, slots := 6, locals := 122 } : Room) (va_Pc [.ref q1, .int x2, .int x3] (PZ g sz [])) NI (XW g [] sz "java/lang/IllegalArgumentException" []) 1 6 (va_A [] sz) := by
  refine ofX (by decide) (Nat.le_of_ble_eq_true rfl) rfl ?_
  intro p e s m args below meth c A ls hAe hsz hx hb hml hr hlocks hin hown hE hP hD hA hS hl hex hz
  have hown : s.vm.findClass RX9 = some m.cls := hown
  refine lv_iload_n hx hb dX9_setTempo_0 rfl (lv_at hl 1 rfl) ?_
  refine lv_iconst (v := 0) hx hb dX9_setTempo_1 (by decide) ?_
  refine lv_sipush (v := 30000) hx hb dX9_setTempo_2 (by decide) ?_
  refine g0_v (rS (rest := []) hx hb hml hown hE hP hD (c1699_X9_requireRange l g x2 h4 h5 s.heap.size) (kS_X9_requireRange hE (e636 hE) rfl rfl ⟨(Nat.le_of_ble_eq_true rfl), (Nat.le_of_ble_eq_true rfl)⟩) [] rfl (by decide) rfl hl.1 rfl (lv_room (Nat.le_of_ble_eq_true rfl)) dX9_setTempo_5 ⟨(Nat.le_of_ble_eq_true rfl), (Nat.le_of_ble_eq_true rfl)⟩) hP hD hS hA (fun u9 H locs hP hS => ?_)
  refine lv_iload_n hx hb dX9_setTempo_8 rfl (lv_at hl 2 rfl) ?_
  refine lv_iconst (v := 1) hx hb dX9_setTempo_9 (by decide) ?_
  refine lv_sipush (v := 1000) hx hb dX9_setTempo_10 (by decide) ?_
  refine gx_v (wr := []) (rSx (rest := []) hx hb hml hown hE hP hD hS hA hz (c1700_X9_requireRange l g hlx x3 h6 H.size) (kS_X9_requireRange hE (e636 hE) rfl rfl ⟨(Nat.le_of_ble_eq_true rfl), (Nat.le_of_ble_eq_true rfl)⟩) [] rfl (by decide) rfl hl.1 rfl (lv_room (Nat.le_of_ble_eq_true rfl)) dX9_setTempo_13 ⟨(Nat.le_of_ble_eq_true rfl), (Nat.le_of_ble_eq_true rfl)⟩) hP hD hS hA [] [] rfl rfl (by decide) (by decide) (fun ce9 q9 H locs hP hD hS hq1 hq2 hq3 => ?_)
  exact x_out hex hlocks hq1 hq2 hq3 hP hD hS hAe hsz (Nat.le_of_ble_eq_true rfl) (Nat.le_of_ble_eq_true rfl) [] (by decide) rfl

set_option maxHeartbeats 4000000 in
set_option maxRecDepth 100000 in
theorem c1702_L_setTempo (l : Launch) (g : gG) (hlx : l.stackTraces = false) (q1 q4 : Nat) (x2 x3 : Int32) (w8 w9 w10 w11 w12 w13 w14 w15 w16 w17 w18 : Value) (h5 : (0 : Int32) ≤ x2) (h6 : x2 ≤ 30000) (h7 : x3 < 1) (sz : Nat) : Met l yL_setTempo [Cond.codeWith yL_setTempo cL_setTempo 5 (some .int) [(0, 10, 13, 15), (0, 10, 17, 17)]] ({ frames := 8, cells := 1, slots := 6, locals := 146 } : Room) (va_Pc [.ref q1, .int x2, .int x3, .ref q4] (PZ g sz [(q1, .inr (11, [w8, w9, w10, w11, w12, w13, w14, w15, w16, w17, w18]))])) (QI g [(q1, .inr (11, [w8, w9, w10, w11, w12, w13, w14, w15, w16, w17, w18]))] sz 1 (fun _ => [])) 1 6 (va_A [(q1, .inr (11, [w8, w9, w10, w11, w12, w13, w14, w15, w16, w17, w18]))] sz) := by
  refine ofH (by decide) (Nat.le_of_ble_eq_true rfl) rfl ?_
  intro p e s m args below meth c A ls hAe hsz hx hb hml hr hlocks hin hown hE hP hD hA hS hl htb hz
  have hown : s.vm.findClass RL = some m.cls := hown
  refine lv_aload_n hx hb dL_setTempo_0 rfl (lv_at hl 3 rfl) ?_
  refine lv_iconst (v := 0) hx hb dL_setTempo_1 (by decide) ?_
  refine lv_aload_n hx hb dL_setTempo_2 rfl (lv_at hl 0 rfl) ?_
  refine lv_iload_n hx hb dL_setTempo_3 rfl (lv_at hl 1 rfl) ?_
  refine lv_iload_n hx hb dL_setTempo_4 rfl (lv_at hl 2 rfl) ?_
  refine gx_i (wr := [(q1, .inr (11, [w8, w9, w10, w11, w12, w13, w14, w15, w16, w17, w18]))]) (rVx (rest := [.int 0, .ref q4]) hx hb hml hown hE hP hD hS hA hz 0 rfl rfl (c1701_X9_setTempo l g hlx q1 x2 x3 h5 h6 h7 s.heap.size) (kV_X9_setTempo hE (e904 hE) rfl rfl ⟨(Nat.le_of_ble_eq_true rfl), (Nat.le_of_ble_eq_true rfl)⟩) [] rfl (by decide) rfl hl.1 rfl (lv_room (Nat.le_of_ble_eq_true rfl)) dL_setTempo_5 ⟨(Nat.le_of_ble_eq_true rfl), (Nat.le_of_ble_eq_true rfl)⟩) hP hD hS hA [] [0] rfl rfl (by decide) (by decide) (fun ce9 q9 H locs hP hD hS hq1 hq2 hq3 => ?_)
  have hP : va_P g.1 vwCl [(q1, .inr (11, [w8, w9, w10, w11, w12, w13, w14, w15, w16, w17, w18]))] H := hP
  have hD : va_D A [(q1, .inr (11, [w8, w9, w10, w11, w12, w13, w14, w15, w16, w17, w18]))] := hD
  refine x_catch (name := "java/lang/IllegalArgumentException") (hh := [(0, 10, 13, 15), (0, 10, 17, 17)]) (tgt := 13) hown htb [] ⟨0, 10, 13, 15⟩ [⟨0, 10, 17, 17⟩] rfl (fun _ h => nomatch h) rfl (by decide) (e611 hE) (e641 hE) hq1 hq2 hq3 rfl ?_
  refine lv_astore (lv' := [(4, .ref q9), (0, .ref q1), (1, .int x2), (2, .int x3), (3, .ref q4)]) hx hb dL_setTempo_13 hl (by decide) rfl (fun ls hl => ?_)
  refine lv_iconst (v := 1) hx hb dL_setTempo_15 (by decide) ?_
  exact x_zret hx hb hr rfl rfl hlocks hP hD hS hAe hsz (Nat.le_of_ble_eq_true rfl) (Nat.le_of_ble_eq_true rfl) (fun _ => 0) [] (by decide) rfl dL_setTempo_16

set_option maxHeartbeats 4000000 in
set_option maxRecDepth 100000 in
theorem c1703_X10_in (l : Launch) (g : gG) (x1 : Int32) (h2 : (0 : Int32) ≤ x1) (h3 : x1 ≤ 30000) (sz : Nat) : Met l yX10_in [Cond.code yX10_in cX10_in 3 (some .boolean)] ({ frames := 0, cells := 0, slots := 0, locals := 0 } : Room) (va_Pc [.int x1, .int 0, .int 30000] (PX g sz [])) (QI g [] sz 1 (fun _ => [])) 0 0 (va_A [] sz) := by
  refine ofN (by decide) (Nat.le_of_ble_eq_true rfl) rfl ?_
  intro p e s m args below meth c A ls hAe hsz hx hb hml hr hlocks hin hown hE hP hD hA hS hl
  have hown : s.vm.findClass RX10 = some m.cls := hown
  refine lv_iload_n hx hb dX10_in_0 rfl (lv_at hl 0 rfl) ?_
  refine lv_iload_n hx hb dX10_in_1 rfl (lv_at hl 1 rfl) ?_
  refine lv_icmp_lt (tgt := 14) hx hb dX10_in_2 (by decide) (fun h => absurd h (i_nlt h2)) (fun _ => ?_)
  refine lv_iload_n hx hb dX10_in_5 rfl (lv_at hl 0 rfl) ?_
  refine lv_iload_n hx hb dX10_in_6 rfl (lv_at hl 2 rfl) ?_
  refine lv_icmp_gt (tgt := 14) hx hb dX10_in_7 (by decide) (fun h => absurd h (i_nlt h3)) (fun _ => ?_)
  refine lv_iconst (v := 1) hx hb dX10_in_10 (by decide) ?_
  refine lv_goto (tgt := 15) hx hb dX10_in_11 (by decide) ?_
  exact x_zret hx hb hr rfl rfl hlocks hP hD hS hAe hsz (Nat.le_of_ble_eq_true rfl) (Nat.le_of_ble_eq_true rfl) (fun _ => 0) [] (by decide) rfl dX10_in_15

set_option maxHeartbeats 4000000 in
set_option maxRecDepth 100000 in
theorem c1704_X10_in (l : Launch) (g : gG) (x1 : Int32) (h2 : x1 < 1) (sz : Nat) : Met l yX10_in [Cond.code yX10_in cX10_in 3 (some .boolean)] ({ frames := 0, cells := 0, slots := 0, locals := 0 } : Room) (va_Pc [.int x1, .int 1, .int 1000] (PX g sz [])) (QI g [] sz 0 (fun _ => [])) 0 0 (va_A [] sz) := by
  refine ofN (by decide) (Nat.le_of_ble_eq_true rfl) rfl ?_
  intro p e s m args below meth c A ls hAe hsz hx hb hml hr hlocks hin hown hE hP hD hA hS hl
  have hown : s.vm.findClass RX10 = some m.cls := hown
  refine lv_iload_n hx hb dX10_in_0 rfl (lv_at hl 0 rfl) ?_
  refine lv_iload_n hx hb dX10_in_1 rfl (lv_at hl 1 rfl) ?_
  refine lv_icmp_lt (tgt := 14) hx hb dX10_in_2 (by decide) (fun _ => ?_) (fun h => absurd h2 h)
  refine lv_iconst (v := 0) hx hb dX10_in_14 (by decide) ?_
  exact x_zret hx hb hr rfl rfl hlocks hP hD hS hAe hsz (Nat.le_of_ble_eq_true rfl) (Nat.le_of_ble_eq_true rfl) (fun _ => 0) [] (by decide) rfl dX10_in_15

set_option maxHeartbeats 4000000 in
set_option maxRecDepth 100000 in
theorem c1705_X10_setTempo (l : Launch) (g : gG) (q1 : Nat) (x2 x3 : Int32) (w4 w5 w6 w7 w8 w9 w10 w11 w12 w13 w14 w15 w16 w17 w18 w19 w20 w21 w22 w23 w24 w25 w26 w27 w28 w29 w30 w31 w32 w33 w34 w35 w36 w37 w38 w39 w40 : Value) (h41 : (0 : Int32) ≤ x2) (h42 : x2 ≤ 30000) (h43 : x3 < 1) (sz : Nat) : Met l yX10_setTempo [Cond.code yX10_setTempo cX10_setTempo 6 (some .int)] ({ frames := 1, cells := 0, slots := 0, locals := 22 } : Room) (va_Pc [.ref q1, .int x2, .int x3] (PX g sz [(q1, .inr (12, [w4, w5, w6, w7, w8, w9, w10, w11, w12, w13, w14, w15, w16, w17, w18, w19, w20, w21, w22, w23, w24, w25, w26, w27, w28, w29, w30, w31, w32, w33, w34, w35, w36, w37, w38, w39, w40]))])) (QI g [(q1, .inr (12, [w4, w5, w6, w7, w8, w9, w10, w11, w12, w13, w14, w15, w16, w17, w18, w19, w20, w21, w22, w23, w24, w25, w26, w27, w28, w29, w30, w31, w32, w33, w34, w35, w36, w37, w38, w39, w40]))] sz 0 (fun _ => [(q1, .inr (12, [w4, w5, w6, w7, w8, w9, .int 1, w11, w12, w13, w14, w15, w16, w17, w18, w19, w20, w21, w22, w23, w24, w25, w26, w27, w28, w29, w30, w31, w32, w33, w34, w35, w36, w37, w38, w39, w40]))])) 0 0 (va_A [(q1, .inr (12, [w4, w5, w6, w7, w8, w9, w10, w11, w12, w13, w14, w15, w16, w17, w18, w19, w20, w21, w22, w23, w24, w25, w26, w27, w28, w29, w30, w31, w32, w33, w34, w35, w36, w37, w38, w39, w40]))] sz) := by
  refine ofN (by decide) (Nat.le_of_ble_eq_true rfl) rfl ?_
  intro p e s m args below meth c A ls hAe hsz hx hb hml hr hlocks hin hown hE hP hD hA hS hl
  have hown : s.vm.findClass RX10 = some m.cls := hown
  refine lv_aload_n hx hb dX10_setTempo_0 rfl (lv_at hl 0 rfl) ?_
  refine lv_iconst (v := 0) hx hb dX10_setTempo_1 (by decide) ?_
  refine pf_RX10_86 (ws' := [(q1, .inr (12, [w4, w5, w6, w7, w8, w9, .int 0, w11, w12, w13, w14, w15, w16, w17, w18, w19, w20, w21, w22, w23, w24, w25, w26, w27, w28, w29, w30, w31, w32, w33, w34, w35, w36, w37, w38, w39, w40]))]) hx hb hown hE hP hD hS 0 rfl rfl rfl (Nat.le_of_ble_eq_true rfl) dX10_setTempo_2 rfl (fun H locs hP hD hS => ?_)
  refine lv_iload_n hx hb dX10_setTempo_5 rfl (lv_at hl 1 rfl) ?_
  refine lv_iconst (v := 0) hx hb dX10_setTempo_6 (by decide) ?_
  refine lv_sipush (v := 30000) hx hb dX10_setTempo_7 (by decide) ?_
  refine g0_i (rS (rest := []) hx hb hml hown hE hP hD (c1703_X10_in l g x2 h41 h42 H.size) (kS_X10_in hE (e1431 hE) rfl rfl ⟨(Nat.le_of_ble_eq_true rfl), (Nat.le_of_ble_eq_true rfl)⟩) [] rfl (by decide) rfl hl.1 rfl (lv_room (Nat.le_of_ble_eq_true rfl)) dX10_setTempo_10 ⟨(Nat.le_of_ble_eq_true rfl), (Nat.le_of_ble_eq_true rfl)⟩) hP hD hS hA (fun u9 H locs hP hS => ?_)
  refine lv_if_eq (tgt := 27) hx hb dX10_setTempo_13 (by decide) (fun h => absurd h (by decide)) (fun _ => ?_)
  refine lv_iload_n hx hb dX10_setTempo_16 rfl (lv_at hl 2 rfl) ?_
  refine lv_iconst (v := 1) hx hb dX10_setTempo_17 (by decide) ?_
  refine lv_sipush (v := 1000) hx hb dX10_setTempo_18 (by decide) ?_
  refine g0_i (rS (rest := []) hx hb hml hown hE hP hD (c1704_X10_in l g x3 h43 H.size) (kS_X10_in hE (e1431 hE) rfl rfl ⟨(Nat.le_of_ble_eq_true rfl), (Nat.le_of_ble_eq_true rfl)⟩) [] rfl (by decide) rfl hl.1 rfl (lv_room (Nat.le_of_ble_eq_true rfl)) dX10_setTempo_21 ⟨(Nat.le_of_ble_eq_true rfl), (Nat.le_of_ble_eq_true rfl)⟩) hP hD hS hA (fun u9 H locs hP hS => ?_)
  refine lv_if_ne (tgt := 33) hx hb dX10_setTempo_24 (by decide) (fun h => absurd h (by decide)) (fun _ => ?_)
  refine lv_aload_n hx hb dX10_setTempo_27 rfl (lv_at hl 0 rfl) ?_
  refine lv_iconst (v := 1) hx hb dX10_setTempo_28 (by decide) ?_
  refine g_i (wr := []) (rV (rest := []) hx hb hml hown hE hP hD 0 rfl rfl (c1475_X10_refuse l g q1 w4 w5 w6 w7 w8 w9 (.int 0) w11 w12 w13 w14 w15 w16 w17 w18 w19 w20 w21 w22 w23 w24 w25 w26 w27 w28 w29 w30 w31 w32 w33 w34 w35 w36 w37 w38 w39 w40 H.size) (kV_X10_refuse hE (e1474 hE) rfl rfl ⟨(Nat.le_of_ble_eq_true rfl), (Nat.le_of_ble_eq_true rfl)⟩) [0] rfl (by decide) rfl hl.1 rfl (lv_room (Nat.le_of_ble_eq_true rfl)) dX10_setTempo_29 ⟨(Nat.le_of_ble_eq_true rfl), (Nat.le_of_ble_eq_true rfl)⟩) hP hD hS hA [0] [] rfl rfl (by decide) (by decide) (fun u3 H locs hP hD hS => ?_)
  have hP : va_P g.1 vwCl [(q1, .inr (12, [w4, w5, w6, w7, w8, w9, .int 1, w11, w12, w13, w14, w15, w16, w17, w18, w19, w20, w21, w22, w23, w24, w25, w26, w27, w28, w29, w30, w31, w32, w33, w34, w35, w36, w37, w38, w39, w40]))] H := hP
  have hD : va_D A [(q1, .inr (12, [w4, w5, w6, w7, w8, w9, .int 1, w11, w12, w13, w14, w15, w16, w17, w18, w19, w20, w21, w22, w23, w24, w25, w26, w27, w28, w29, w30, w31, w32, w33, w34, w35, w36, w37, w38, w39, w40]))] := hD
  exact x_zret hx hb hr rfl rfl hlocks hP hD hS hAe hsz (Nat.le_of_ble_eq_true rfl) (Nat.le_of_ble_eq_true rfl) (fun _ => 0) [0] (by decide) rfl dX10_setTempo_32

set_option maxHeartbeats 4000000 in
set_option maxRecDepth 100000 in
theorem c1706_X9_requireRange (l : Launch) (g : gG) (x1 : Int32) (h2 : (1 : Int32) ≤ x1) (h3 : x1 ≤ 1000) (sz : Nat) : Met l yX9_requireRange [Cond.code yX9_requireRange cX9_requireRange 3 none] ({ frames := 0, cells := 0, slots := 0, locals := 0 } : Room) (va_Pc [.int x1, .int 1, .int 1000] (PX g sz [])) (QV g [] sz (fun _ => [])) 0 0 (va_A [] sz) := by
  refine ofN (by decide) (Nat.le_of_ble_eq_true rfl) rfl ?_
  intro p e s m args below meth c A ls hAe hsz hx hb hml hr hlocks hin hown hE hP hD hA hS hl
  have hown : s.vm.findClass RX9 = some m.cls := hown
  refine lv_iload_n hx hb dX9_requireRange_0 rfl (lv_at hl 0 rfl) ?_
  refine lv_iload_n hx hb dX9_requireRange_1 rfl (lv_at hl 1 rfl) ?_
  refine lv_icmp_lt (tgt := 10) hx hb dX9_requireRange_2 (by decide) (fun h => absurd h (i_nlt h2)) (fun _ => ?_)
  refine lv_iload_n hx hb dX9_requireRange_5 rfl (lv_at hl 0 rfl) ?_
  refine lv_iload_n hx hb dX9_requireRange_6 rfl (lv_at hl 2 rfl) ?_
  refine lv_icmp_le (tgt := 21) hx hb dX9_requireRange_7 (by decide) (fun _ => ?_) (fun h => absurd h3 h)
  exact x_vret hx hb hr hlocks hP hD hS hAe hsz (Nat.le_of_ble_eq_true rfl) (Nat.le_of_ble_eq_true rfl) (fun _ => 0) [] (by decide) rfl dX9_requireRange_21

set_option maxHeartbeats 4000000 in
set_option maxRecDepth 100000 in
theorem c1707_X7_placeTick (l : Launch) (g : gG) (q1 q6 : Nat) (w3 w4 w5 : Value) (f7 : Nat → Int32) (hf8 : f7 0 = 0) (sz : Nat) : Met l yX7_placeTick [Cond.code yX7_placeTick cX7_placeTick 2 (some .int)] ({ frames := 0, cells := 0, slots := 0, locals := 0 } : Room) (va_Pc [.ref q1, .int 0] (PX g sz [(q6, .inl (g.2 0, 10, .inl f7)), (q1, .inr (9, [.ref q6, w3, w4, w5]))])) (QI g [(q6, .inl (g.2 0, 10, .inl f7)), (q1, .inr (9, [.ref q6, w3, w4, w5]))] sz 0 (fun _ => [(q6, .inl (g.2 0, 10, .inl f7)), (q1, .inr (9, [.ref q6, w3, w4, w5]))])) 0 0 (va_A [(q6, .inl (g.2 0, 10, .inl f7)), (q1, .inr (9, [.ref q6, w3, w4, w5]))] sz) := by
  refine ofN (by decide) (Nat.le_of_ble_eq_true rfl) rfl ?_
  intro p e s m args below meth c A ls hAe hsz hx hb hml hr hlocks hin hown hE hP hD hA hS hl
  have hown : s.vm.findClass RX7 = some m.cls := hown
  refine lv_iload_n hx hb dX7_placeTick_0 rfl (lv_at hl 1 rfl) ?_
  refine lv_if_lt (tgt := 22) hx hb dX7_placeTick_1 (by decide) (fun h => absurd h (by decide)) (fun _ => ?_)
  refine lv_iload_n hx hb dX7_placeTick_4 rfl (lv_at hl 1 rfl) ?_
  refine lv_aload_n hx hb dX7_placeTick_5 rfl (lv_at hl 0 rfl) ?_
  refine gf_RX7_9 hx hb hown hE hP 1 rfl rfl dX7_placeTick_6 ?_
  refine x_aleni (v := 10) hx hb hE hP 0 rfl rfl dX7_placeTick_9 ?_
  refine lv_icmp_ge (tgt := 22) hx hb dX7_placeTick_10 (by decide) (fun h => absurd h (by decide)) (fun _ => ?_)
  refine lv_aload_n hx hb dX7_placeTick_13 rfl (lv_at hl 0 rfl) ?_
  refine gf_RX7_9 hx hb hown hE hP 1 rfl rfl dX7_placeTick_14 ?_
  refine lv_iload_n hx hb dX7_placeTick_17 rfl (lv_at hl 1 rfl) ?_
  refine x_iald (v := 0) hx hb hE hP 0 rfl 0 (x_in (by decide)) (by decide) hf8 dX7_placeTick_18 ?_
  refine lv_goto (tgt := 23) hx hb dX7_placeTick_19 (by decide) ?_
  exact x_zret hx hb hr rfl rfl hlocks hP hD hS hAe hsz (Nat.le_of_ble_eq_true rfl) (Nat.le_of_ble_eq_true rfl) (fun _ => 0) [0, 1] (by decide) rfl dX7_placeTick_23

set_option maxHeartbeats 4000000 in
set_option maxRecDepth 100000 in
theorem c1708_X7_placeAt (l : Launch) (g : gG) (q1 q7 : Nat) (x2 : Int32) (w4 w6 : Value) (f8 : Nat → Int32) (hf9 : f8 0 = 0) (h10 : ¬ (0 : Int32) = x2) (sz : Nat) : Met l yX7_placeAt [Cond.code yX7_placeAt cX7_placeAt 3 (some .int)] ({ frames := 1, cells := 0, slots := 0, locals := 21 } : Room) (va_Pc [.ref q1, .int x2] (PX g sz [(q7, .inl (g.2 0, 10, .inl f8)), (q1, .inr (9, [.ref q7, w4, .int 1, w6]))])) (QI g [(q7, .inl (g.2 0, 10, .inl f8)), (q1, .inr (9, [.ref q7, w4, .int 1, w6]))] sz (-1) (fun _ => [(q7, .inl (g.2 0, 10, .inl f8)), (q1, .inr (9, [.ref q7, w4, .int 1, w6]))])) 0 0 (va_A [(q7, .inl (g.2 0, 10, .inl f8)), (q1, .inr (9, [.ref q7, w4, .int 1, w6]))] sz) := by
  refine ofN (by decide) (Nat.le_of_ble_eq_true rfl) rfl ?_
  intro p e s m args below meth c A ls hAe hsz hx hb hml hr hlocks hin hown hE hP hD hA hS hl
  have hown : s.vm.findClass RX7 = some m.cls := hown
  refine lv_iconst (v := 0) hx hb dX7_placeAt_0 (by decide) ?_
  refine lv_istore_n (lv' := [(2, .int 0), (0, .ref q1), (1, .int x2)]) hx hb dX7_placeAt_1 rfl hl (by decide) rfl (fun ls hl => ?_)
  refine lv_iload_n hx hb dX7_placeAt_2 rfl (lv_at hl 0 rfl) ?_
  refine lv_aload_n hx hb dX7_placeAt_3 rfl (lv_at hl 1 rfl) ?_
  refine gf_RX7_18 hx hb hown hE hP 1 rfl rfl dX7_placeAt_4 ?_
  refine lv_icmp_ge (tgt := 27) hx hb dX7_placeAt_7 (by decide) (fun h => absurd h (by decide)) (fun _ => ?_)
  refine lv_aload_n hx hb dX7_placeAt_10 rfl (lv_at hl 1 rfl) ?_
  refine lv_iload_n hx hb dX7_placeAt_11 rfl (lv_at hl 0 rfl) ?_
  refine g_i (wr := []) (rV (rest := []) hx hb hml hown hE hP hD 1 rfl rfl (c1707_X7_placeTick l g q1 q7 w4 (.int 1) w6 f8 (hf9) s.heap.size) (kV_X7_placeTick hE (e409 hE) rfl rfl ⟨(Nat.le_of_ble_eq_true rfl), (Nat.le_of_ble_eq_true rfl)⟩) [0, 1] rfl (by decide) rfl hl.1 rfl (lv_room (Nat.le_of_ble_eq_true rfl)) dX7_placeAt_12 ⟨(Nat.le_of_ble_eq_true rfl), (Nat.le_of_ble_eq_true rfl)⟩) hP hD hS hA [0, 1] [] rfl rfl (by decide) (by decide) (fun u1 H locs hP hD hS => ?_)
  have hP : va_P g.1 vwCl [(q7, .inl (g.2 0, 10, .inl f8)), (q1, .inr (9, [.ref q7, w4, .int 1, w6]))] H := hP
  have hD : va_D A [(q7, .inl (g.2 0, 10, .inl f8)), (q1, .inr (9, [.ref q7, w4, .int 1, w6]))] := hD
  refine lv_iload_n hx hb dX7_placeAt_15 rfl (lv_at hl 2 rfl) ?_
  refine lv_icmp_ne (tgt := 21) hx hb dX7_placeAt_16 (by decide) (fun _ => ?_) (fun h => absurd h h10)
  refine lv_iinc (v := 1) (lv' := [(2, .int 1), (0, .ref q1), (1, .int x2)]) hx hb dX7_placeAt_21 hl (k := 0) rfl (by decide) (by decide) rfl (fun ls hl => ?_)
  refine lv_goto (tgt := 2) hx hb dX7_placeAt_24 (by decide) ?_
  refine lv_iload_n hx hb dX7_placeAt_2 rfl (lv_at hl 0 rfl) ?_
  refine lv_aload_n hx hb dX7_placeAt_3 rfl (lv_at hl 1 rfl) ?_
  refine gf_RX7_18 hx hb hown hE hP 1 rfl rfl dX7_placeAt_4 ?_
  refine lv_icmp_ge (tgt := 27) hx hb dX7_placeAt_7 (by decide) (fun _ => ?_) (fun h => absurd (by decide) h)
  refine lv_iconst (v := (-1)) hx hb dX7_placeAt_27 (by decide) ?_
  exact x_zret hx hb hr rfl rfl hlocks hP hD hS hAe hsz (Nat.le_of_ble_eq_true rfl) (Nat.le_of_ble_eq_true rfl) (fun _ => 0) [0, 1] (by decide) rfl dX7_placeAt_28

set_option maxHeartbeats 4000000 in
set_option maxRecDepth 100000 in
theorem c1709_X7_addPlace (l : Launch) (g : gG) (q1 q8 q10 : Nat) (x2 x3 : Int32) (w7 : Value) (f9 : Nat → Int32) (f11 : Nat → Int32) (hf12 : f9 0 = 0) (h13 : (0 : Int32) ≤ x2) (sz : Nat) : Met l yX7_addPlace [Cond.code yX7_addPlace cX7_addPlace 4 none] ({ frames := 0, cells := 0, slots := 0, locals := 0 } : Room) (va_Pc [.ref q1, .int x2, .int x3] (PX g sz [(q10, .inl (g.2 0, 10, .inl f11)), (q8, .inl (g.2 0, 10, .inl f9)), (q1, .inr (9, [.ref q8, .ref q10, .int 1, w7]))])) (QV g [(q10, .inl (g.2 0, 10, .inl f11)), (q8, .inl (g.2 0, 10, .inl f9)), (q1, .inr (9, [.ref q8, .ref q10, .int 1, w7]))] sz (fun _ => [(q10, .inl (g.2 0, 10, .inl (upd f11 1 x3))), (q8, .inl (g.2 0, 10, .inl (upd f9 1 x2))), (q1, .inr (9, [.ref q8, .ref q10, .int 2, w7]))])) 0 0 (va_A [(q10, .inl (g.2 0, 10, .inl f11)), (q8, .inl (g.2 0, 10, .inl f9)), (q1, .inr (9, [.ref q8, .ref q10, .int 1, w7]))] sz) := by
  refine ofN (by decide) (Nat.le_of_ble_eq_true rfl) rfl ?_
  intro p e s m args below meth c A ls hAe hsz hx hb hml hr hlocks hin hown hE hP hD hA hS hl
  have hown : s.vm.findClass RX7 = some m.cls := hown
  refine lv_aload_n hx hb dX7_addPlace_0 rfl (lv_at hl 0 rfl) ?_
  refine gf_RX7_18 hx hb hown hE hP 2 rfl rfl dX7_addPlace_1 ?_
  refine lv_if_lt (tgt := 31) hx hb dX7_addPlace_4 (by decide) (fun h => absurd h (by decide)) (fun _ => ?_)
  refine lv_aload_n hx hb dX7_addPlace_7 rfl (lv_at hl 0 rfl) ?_
  refine gf_RX7_18 hx hb hown hE hP 2 rfl rfl dX7_addPlace_8 ?_
  refine lv_aload_n hx hb dX7_addPlace_11 rfl (lv_at hl 0 rfl) ?_
  refine gf_RX7_9 hx hb hown hE hP 2 rfl rfl dX7_addPlace_12 ?_
  refine x_aleni (v := 10) hx hb hE hP 1 rfl rfl dX7_addPlace_15 ?_
  refine lv_icmp_ge (tgt := 31) hx hb dX7_addPlace_16 (by decide) (fun h => absurd h (by decide)) (fun _ => ?_)
  refine lv_aload_n hx hb dX7_addPlace_19 rfl (lv_at hl 0 rfl) ?_
  refine gf_RX7_18 hx hb hown hE hP 2 rfl rfl dX7_addPlace_20 ?_
  refine lv_aload_n hx hb dX7_addPlace_23 rfl (lv_at hl 0 rfl) ?_
  refine gf_RX7_15 hx hb hown hE hP 2 rfl rfl dX7_addPlace_24 ?_
  refine x_aleni (v := 10) hx hb hE hP 0 rfl rfl dX7_addPlace_27 ?_
  refine lv_icmp_lt (tgt := 32) hx hb dX7_addPlace_28 (by decide) (fun _ => ?_) (fun h => absurd (by decide) h)
  refine lv_aload_n hx hb dX7_addPlace_32 rfl (lv_at hl 0 rfl) ?_
  refine gf_RX7_18 hx hb hown hE hP 2 rfl rfl dX7_addPlace_33 ?_
  refine lv_istore_n (lv' := [(3, .int 1), (0, .ref q1), (1, .int x2), (2, .int x3)]) hx hb dX7_addPlace_36 rfl hl (by decide) rfl (fun ls hl => ?_)
  refine lv_iload_n hx hb dX7_addPlace_37 rfl (lv_at hl 0 rfl) ?_
  refine lv_if_le (tgt := 87) hx hb dX7_addPlace_38 (by decide) (fun h => absurd h (by decide)) (fun _ => ?_)
  refine lv_aload_n hx hb dX7_addPlace_41 rfl (lv_at hl 1 rfl) ?_
  refine gf_RX7_9 hx hb hown hE hP 2 rfl rfl dX7_addPlace_42 ?_
  refine lv_iload_n hx hb dX7_addPlace_45 rfl (lv_at hl 0 rfl) ?_
  refine lv_iconst (v := 1) hx hb dX7_addPlace_46 (by decide) ?_
  refine x_isub (v := 0) hx hb dX7_addPlace_47 (by decide) ?_
  refine x_iald (v := 0) hx hb hE hP 1 rfl 0 (x_in (by decide)) (by decide) hf12 dX7_addPlace_48 ?_
  refine lv_iload_n hx hb dX7_addPlace_49 rfl (lv_at hl 2 rfl) ?_
  refine lv_icmp_le (tgt := 87) hx hb dX7_addPlace_50 (by decide) (fun _ => ?_) (fun h => absurd h13 h)
  refine lv_aload_n hx hb dX7_addPlace_87 rfl (lv_at hl 1 rfl) ?_
  refine gf_RX7_9 hx hb hown hE hP 2 rfl rfl dX7_addPlace_88 ?_
  refine lv_iload_n hx hb dX7_addPlace_91 rfl (lv_at hl 0 rfl) ?_
  refine lv_iload_n hx hb dX7_addPlace_92 rfl (lv_at hl 2 rfl) ?_
  refine x_iast (ws' := [(q10, .inl (g.2 0, 10, .inl f11)), (q8, .inl (g.2 0, 10, .inl (upd f9 1 x2))), (q1, .inr (9, [.ref q8, .ref q10, .int 1, w7]))]) hx hb hE hP hD hS 1 rfl 1 (x_in (by decide)) (by decide) dX7_addPlace_93 rfl (fun H locs hP hD hS => ?_)
  refine lv_aload_n hx hb dX7_addPlace_94 rfl (lv_at hl 1 rfl) ?_
  refine gf_RX7_15 hx hb hown hE hP 2 rfl rfl dX7_addPlace_95 ?_
  refine lv_iload_n hx hb dX7_addPlace_98 rfl (lv_at hl 0 rfl) ?_
  refine lv_iload_n hx hb dX7_addPlace_99 rfl (lv_at hl 3 rfl) ?_
  refine x_iast (ws' := [(q10, .inl (g.2 0, 10, .inl (upd f11 1 x3))), (q8, .inl (g.2 0, 10, .inl (upd f9 1 x2))), (q1, .inr (9, [.ref q8, .ref q10, .int 1, w7]))]) hx hb hE hP hD hS 0 rfl 1 (x_in (by decide)) (by decide) dX7_addPlace_100 rfl (fun H locs hP hD hS => ?_)
  refine lv_aload_n hx hb dX7_addPlace_101 rfl (lv_at hl 1 rfl) ?_
  refine lv_dup hx hb dX7_addPlace_102 rfl ?_
  refine gf_RX7_18 hx hb hown hE hP 2 rfl rfl dX7_addPlace_103 ?_
  refine lv_iconst (v := 1) hx hb dX7_addPlace_106 (by decide) ?_
  refine x_iadd (v := 2) hx hb dX7_addPlace_107 (by decide) ?_
  refine pf_RX7_18 (ws' := [(q10, .inl (g.2 0, 10, .inl (upd f11 1 x3))), (q8, .inl (g.2 0, 10, .inl (upd f9 1 x2))), (q1, .inr (9, [.ref q8, .ref q10, .int 2, w7]))]) hx hb hown hE hP hD hS 2 rfl rfl rfl (Nat.le_of_ble_eq_true rfl) dX7_addPlace_108 rfl (fun H locs hP hD hS => ?_)
  exact x_vret hx hb hr hlocks hP hD hS hAe hsz (Nat.le_of_ble_eq_true rfl) (Nat.le_of_ble_eq_true rfl) (fun _ => 0) [0, 1, 2] (by decide) rfl dX7_addPlace_111

set_option maxHeartbeats 4000000 in
set_option maxRecDepth 100000 in
theorem c1710_X7_placeCount (l : Launch) (g : gG) (q1 : Nat) (w2 w3 w5 : Value) (sz : Nat) : Met l yX7_placeCount [Cond.code yX7_placeCount cX7_placeCount 1 (some .int)] ({ frames := 0, cells := 0, slots := 0, locals := 0 } : Room) (va_Pc [.ref q1] (PX g sz [(q1, .inr (9, [w2, w3, .int 2, w5]))])) (QI g [(q1, .inr (9, [w2, w3, .int 2, w5]))] sz 2 (fun _ => [(q1, .inr (9, [w2, w3, .int 2, w5]))])) 0 0 (va_A [(q1, .inr (9, [w2, w3, .int 2, w5]))] sz) := by
  refine ofN (by decide) (Nat.le_of_ble_eq_true rfl) rfl ?_
  intro p e s m args below meth c A ls hAe hsz hx hb hml hr hlocks hin hown hE hP hD hA hS hl
  have hown : s.vm.findClass RX7 = some m.cls := hown
  refine lv_aload_n hx hb dX7_placeCount_0 rfl (lv_at hl 0 rfl) ?_
  refine gf_RX7_18 hx hb hown hE hP 0 rfl rfl dX7_placeCount_1 ?_
  exact x_zret hx hb hr rfl rfl hlocks hP hD hS hAe hsz (Nat.le_of_ble_eq_true rfl) (Nat.le_of_ble_eq_true rfl) (fun _ => 0) [0] (by decide) rfl dX7_placeCount_4

set_option maxHeartbeats 4000000 in
set_option maxRecDepth 100000 in
theorem c1711_X9_setTempo (l : Launch) (g : gG) (q1 q19 q23 q26 q28 q36 q37 q38 q39 q47 q48 q49 q50 q53 q54 q57 q58 q65 q66 q71 q72 : Nat) (x2 x3 : Int32) (w9 w10 w11 w12 w13 w14 w15 w16 w17 w18 w33 w34 w35 w69 w70 : Value) (f24 : Nat → Option Nat) (f59 : Nat → Int32) (f60 : Nat → Int32) (f73 : Nat → Int32) (f74 : Nat → Int32) (hf25 : f24 1 = some q26) (hf27 : f24 0 = some q28) (hf75 : f59 0 = 0) (h4 : (0 : Int32) ≤ x2) (h5 : x2 ≤ 30000) (h6 : (1 : Int32) ≤ x3) (h7 : x3 ≤ 1000) (h76 : ¬ (0 : Int32) = x2) (sz : Nat) : Met l yX9_setTempo [Cond.code yX9_setTempo cX9_setTempo 5 (some .int)] ({ frames := 5, cells := 0, slots := 0, locals := 148 } : Room) (va_Pc [.ref q1, .int x2, .int x3] (PX g sz [(q39, .inl (g.2 0, 20, .inl f74)), (q50, .inl (g.2 0, 20, .inl f74)), (q38, .inl (g.2 0, 60, .inl f59)), (q49, .inl (g.2 0, 60, .inl f59)), (q72, .inl (g.2 0, 10, .inl f73)), (q66, .inl (g.2 0, 10, .inl f73)), (q71, .inl (g.2 0, 10, .inl f59)), (q65, .inl (g.2 0, 10, .inl f59)), (q37, .inr (9, [.ref q71, .ref q72, w69, w70])), (q48, .inr (9, [.ref q65, .ref q66, .int 1, .int 0])), (q58, .inl (g.2 0, 40, .inl f60)), (q54, .inl (g.2 0, 40, .inl f60)), (q57, .inl (g.2 0, 384, .inl f59)), (q53, .inl (g.2 0, 384, .inl f59)), (q36, .inr (5, [.ref q57, .ref q58])), (q47, .inr (5, [.ref q53, .ref q54])), (q28, .inr (8, [.ref q47, .ref q48, .ref q49, .ref q50, .int 0, .int 4, .int 0])), (q26, .inr (8, [.ref q36, .ref q37, .ref q38, .ref q39, w33, w34, w35])), (q23, .inl (g.2 3, 10, .inr (.inr (.inr (.inr f24))))), (q19, .inr (10, [.ref q23, .int 0, .int 0])), (q1, .inr (11, [.ref q19, w9, w10, w11, w12, w13, w14, w15, w16, w17, w18]))])) (QI g [(q39, .inl (g.2 0, 20, .inl f74)), (q50, .inl (g.2 0, 20, .inl f74)), (q38, .inl (g.2 0, 60, .inl f59)), (q49, .inl (g.2 0, 60, .inl f59)), (q72, .inl (g.2 0, 10, .inl f73)), (q66, .inl (g.2 0, 10, .inl f73)), (q71, .inl (g.2 0, 10, .inl f59)), (q65, .inl (g.2 0, 10, .inl f59)), (q37, .inr (9, [.ref q71, .ref q72, w69, w70])), (q48, .inr (9, [.ref q65, .ref q66, .int 1, .int 0])), (q58, .inl (g.2 0, 40, .inl f60)), (q54, .inl (g.2 0, 40, .inl f60)), (q57, .inl (g.2 0, 384, .inl f59)), (q53, .inl (g.2 0, 384, .inl f59)), (q36, .inr (5, [.ref q57, .ref q58])), (q47, .inr (5, [.ref q53, .ref q54])), (q28, .inr (8, [.ref q47, .ref q48, .ref q49, .ref q50, .int 0, .int 4, .int 0])), (q26, .inr (8, [.ref q36, .ref q37, .ref q38, .ref q39, w33, w34, w35])), (q23, .inl (g.2 3, 10, .inr (.inr (.inr (.inr f24))))), (q19, .inr (10, [.ref q23, .int 0, .int 0])), (q1, .inr (11, [.ref q19, w9, w10, w11, w12, w13, w14, w15, w16, w17, w18]))] sz 2 (fun _ => [(q23, .inl (g.2 3, 10, .inr (.inr (.inr (.inr f24))))), (q28, .inr (8, [.ref q47, .ref q48, .ref q49, .ref q50, .int 0, .int 4, .int 0])), (q26, .inr (8, [.ref q36, .ref q37, .ref q38, .ref q39, .int 0, .int 4, .int 0])), (q36, .inr (5, [.ref q57, .ref q58])), (q47, .inr (5, [.ref q53, .ref q54])), (q57, .inl (g.2 0, 384, .inl f59)), (q53, .inl (g.2 0, 384, .inl f59)), (q58, .inl (g.2 0, 40, .inl f60)), (q54, .inl (g.2 0, 40, .inl f60)), (q48, .inr (9, [.ref q65, .ref q66, .int 1, .int 0])), (q65, .inl (g.2 0, 10, .inl f59)), (q66, .inl (g.2 0, 10, .inl f73)), (q38, .inl (g.2 0, 60, .inl f59)), (q49, .inl (g.2 0, 60, .inl f59)), (q39, .inl (g.2 0, 20, .inl f74)), (q50, .inl (g.2 0, 20, .inl f74)), (q72, .inl (g.2 0, 10, .inl (upd f73 1 x3))), (q71, .inl (g.2 0, 10, .inl (upd f59 1 x2))), (q19, .inr (10, [.ref q23, .int 1, .int 1])), (q1, .inr (11, [.ref q19, w9, w10, w11, w12, w13, w14, w15, .int 0, .int 0, w18])), (q37, .inr (9, [.ref q71, .ref q72, .int 2, .int 0]))])) 0 0 (va_A [(q39, .inl (g.2 0, 20, .inl f74)), (q50, .inl (g.2 0, 20, .inl f74)), (q38, .inl (g.2 0, 60, .inl f59)), (q49, .inl (g.2 0, 60, .inl f59)), (q72, .inl (g.2 0, 10, .inl f73)), (q66, .inl (g.2 0, 10, .inl f73)), (q71, .inl (g.2 0, 10, .inl f59)), (q65, .inl (g.2 0, 10, .inl f59)), (q37, .inr (9, [.ref q71, .ref q72, w69, w70])), (q48, .inr (9, [.ref q65, .ref q66, .int 1, .int 0])), (q58, .inl (g.2 0, 40, .inl f60)), (q54, .inl (g.2 0, 40, .inl f60)), (q57, .inl (g.2 0, 384, .inl f59)), (q53, .inl (g.2 0, 384, .inl f59)), (q36, .inr (5, [.ref q57, .ref q58])), (q47, .inr (5, [.ref q53, .ref q54])), (q28, .inr (8, [.ref q47, .ref q48, .ref q49, .ref q50, .int 0, .int 4, .int 0])), (q26, .inr (8, [.ref q36, .ref q37, .ref q38, .ref q39, w33, w34, w35])), (q23, .inl (g.2 3, 10, .inr (.inr (.inr (.inr f24))))), (q19, .inr (10, [.ref q23, .int 0, .int 0])), (q1, .inr (11, [.ref q19, w9, w10, w11, w12, w13, w14, w15, w16, w17, w18]))] sz) := by
  refine ofN (by decide) (Nat.le_of_ble_eq_true rfl) rfl ?_
  intro p e s m args below meth c A ls hAe hsz hx hb hml hr hlocks hin hown hE hP hD hA hS hl
  have hown : s.vm.findClass RX9 = some m.cls := hown
  refine lv_iload_n hx hb dX9_setTempo_0 rfl (lv_at hl 1 rfl) ?_
  refine lv_iconst (v := 0) hx hb dX9_setTempo_1 (by decide) ?_
  refine lv_sipush (v := 30000) hx hb dX9_setTempo_2 (by decide) ?_
  refine g0_v (rS (rest := []) hx hb hml hown hE hP hD (c1699_X9_requireRange l g x2 h4 h5 s.heap.size) (kS_X9_requireRange hE (e636 hE) rfl rfl ⟨(Nat.le_of_ble_eq_true rfl), (Nat.le_of_ble_eq_true rfl)⟩) [] rfl (by decide) rfl hl.1 rfl (lv_room (Nat.le_of_ble_eq_true rfl)) dX9_setTempo_5 ⟨(Nat.le_of_ble_eq_true rfl), (Nat.le_of_ble_eq_true rfl)⟩) hP hD hS hA (fun u9 H locs hP hS => ?_)
  refine lv_iload_n hx hb dX9_setTempo_8 rfl (lv_at hl 2 rfl) ?_
  refine lv_iconst (v := 1) hx hb dX9_setTempo_9 (by decide) ?_
  refine lv_sipush (v := 1000) hx hb dX9_setTempo_10 (by decide) ?_
  refine g0_v (rS (rest := []) hx hb hml hown hE hP hD (c1706_X9_requireRange l g x3 h6 h7 H.size) (kS_X9_requireRange hE (e636 hE) rfl rfl ⟨(Nat.le_of_ble_eq_true rfl), (Nat.le_of_ble_eq_true rfl)⟩) [] rfl (by decide) rfl hl.1 rfl (lv_room (Nat.le_of_ble_eq_true rfl)) dX9_setTempo_13 ⟨(Nat.le_of_ble_eq_true rfl), (Nat.le_of_ble_eq_true rfl)⟩) hP hD hS hA (fun u9 H locs hP hS => ?_)
  refine lv_aload_n hx hb dX9_setTempo_16 rfl (lv_at hl 0 rfl) ?_
  refine gf_RX9_12 hx hb hown hE hP 20 rfl rfl dX9_setTempo_17 ?_
  refine g_r (wr := [(q1, .inr (11, [.ref q19, w9, w10, w11, w12, w13, w14, w15, w16, w17, w18]))]) (rV (rest := []) hx hb hml hown hE hP hD 19 rfl rfl (c127_X8_draft l g q19 q23 q26 q28 q36 q47 q53 q57 q54 q58 q37 q48 q65 q71 q66 q72 q49 q38 q50 q39 (.int 0) w33 w34 w35 w69 w70 f24 f59 f60 f73 f74 (hf25) (hf27) H.size) (kV_X8_draft hE (e659 hE) rfl rfl ⟨(Nat.le_of_ble_eq_true rfl), (Nat.le_of_ble_eq_true rfl)⟩) [0, 1, 2, 3, 4, 5, 6, 7, 8, 9, 10, 11, 12, 13, 14, 15, 16, 17, 18, 19] rfl (by decide) rfl hl.1 rfl (lv_room (Nat.le_of_ble_eq_true rfl)) dX9_setTempo_20 ⟨(Nat.le_of_ble_eq_true rfl), (Nat.le_of_ble_eq_true rfl)⟩) hP hD hS hA [0, 1, 2, 3, 4, 5, 6, 7, 8, 9, 10, 11, 12, 13, 14, 15, 16, 17, 18, 19] [20] rfl rfl (by decide) (by decide) (fun u3 H locs hP hD hS => ?_)
  have hP : va_P g.1 vwCl [(q1, .inr (11, [.ref q19, w9, w10, w11, w12, w13, w14, w15, w16, w17, w18])), (q23, .inl (g.2 3, 10, .inr (.inr (.inr (.inr f24))))), (q19, .inr (10, [.ref q23, .int 0, .int 0])), (q28, .inr (8, [.ref q47, .ref q48, .ref q49, .ref q50, .int 0, .int 4, .int 0])), (q26, .inr (8, [.ref q36, .ref q37, .ref q38, .ref q39, .int 0, .int 4, .int 0])), (q36, .inr (5, [.ref q57, .ref q58])), (q47, .inr (5, [.ref q53, .ref q54])), (q57, .inl (g.2 0, 384, .inl f59)), (q53, .inl (g.2 0, 384, .inl f59)), (q58, .inl (g.2 0, 40, .inl f60)), (q54, .inl (g.2 0, 40, .inl f60)), (q37, .inr (9, [.ref q71, .ref q72, .int 1, .int 0])), (q48, .inr (9, [.ref q65, .ref q66, .int 1, .int 0])), (q71, .inl (g.2 0, 10, .inl f59)), (q65, .inl (g.2 0, 10, .inl f59)), (q72, .inl (g.2 0, 10, .inl f73)), (q66, .inl (g.2 0, 10, .inl f73)), (q38, .inl (g.2 0, 60, .inl f59)), (q49, .inl (g.2 0, 60, .inl f59)), (q39, .inl (g.2 0, 20, .inl f74)), (q50, .inl (g.2 0, 20, .inl f74))] H := hP
  have hD : va_D A [(q1, .inr (11, [.ref q19, w9, w10, w11, w12, w13, w14, w15, w16, w17, w18])), (q23, .inl (g.2 3, 10, .inr (.inr (.inr (.inr f24))))), (q19, .inr (10, [.ref q23, .int 0, .int 0])), (q28, .inr (8, [.ref q47, .ref q48, .ref q49, .ref q50, .int 0, .int 4, .int 0])), (q26, .inr (8, [.ref q36, .ref q37, .ref q38, .ref q39, .int 0, .int 4, .int 0])), (q36, .inr (5, [.ref q57, .ref q58])), (q47, .inr (5, [.ref q53, .ref q54])), (q57, .inl (g.2 0, 384, .inl f59)), (q53, .inl (g.2 0, 384, .inl f59)), (q58, .inl (g.2 0, 40, .inl f60)), (q54, .inl (g.2 0, 40, .inl f60)), (q37, .inr (9, [.ref q71, .ref q72, .int 1, .int 0])), (q48, .inr (9, [.ref q65, .ref q66, .int 1, .int 0])), (q71, .inl (g.2 0, 10, .inl f59)), (q65, .inl (g.2 0, 10, .inl f59)), (q72, .inl (g.2 0, 10, .inl f73)), (q66, .inl (g.2 0, 10, .inl f73)), (q38, .inl (g.2 0, 60, .inl f59)), (q49, .inl (g.2 0, 60, .inl f59)), (q39, .inl (g.2 0, 20, .inl f74)), (q50, .inl (g.2 0, 20, .inl f74))] := hD
  refine lv_astore_n (lv' := [(3, .ref q26), (0, .ref q1), (1, .int x2), (2, .int x3)]) hx hb dX9_setTempo_23 rfl hl (by decide) rfl (fun ls hl => ?_)
  refine lv_aload_n hx hb dX9_setTempo_24 rfl (lv_at hl 0 rfl) ?_
  refine gf_RX9_193 hx hb hown hE hP 4 rfl rfl dX9_setTempo_25 ?_
  refine lv_iload_n hx hb dX9_setTempo_28 rfl (lv_at hl 2 rfl) ?_
  refine g_i (wr := [(q1, .inr (11, [.ref q19, w9, w10, w11, w12, w13, w14, w15, w16, w17, w18])), (q23, .inl (g.2 3, 10, .inr (.inr (.inr (.inr f24))))), (q19, .inr (10, [.ref q23, .int 0, .int 0])), (q28, .inr (8, [.ref q47, .ref q48, .ref q49, .ref q50, .int 0, .int 4, .int 0])), (q26, .inr (8, [.ref q36, .ref q37, .ref q38, .ref q39, .int 0, .int 4, .int 0])), (q36, .inr (5, [.ref q57, .ref q58])), (q47, .inr (5, [.ref q53, .ref q54])), (q57, .inl (g.2 0, 384, .inl f59)), (q53, .inl (g.2 0, 384, .inl f59)), (q58, .inl (g.2 0, 40, .inl f60)), (q54, .inl (g.2 0, 40, .inl f60)), (q48, .inr (9, [.ref q65, .ref q66, .int 1, .int 0])), (q65, .inl (g.2 0, 10, .inl f59)), (q72, .inl (g.2 0, 10, .inl f73)), (q66, .inl (g.2 0, 10, .inl f73)), (q38, .inl (g.2 0, 60, .inl f59)), (q49, .inl (g.2 0, 60, .inl f59)), (q39, .inl (g.2 0, 20, .inl f74)), (q50, .inl (g.2 0, 20, .inl f74))]) (rV (rest := []) hx hb hml hown hE hP hD 11 rfl rfl (c1708_X7_placeAt l g q37 q71 x2 (.ref q72) (.int 0) f59 (hf75) h76 H.size) (kV_X7_placeAt hE (e908 hE) rfl rfl ⟨(Nat.le_of_ble_eq_true rfl), (Nat.le_of_ble_eq_true rfl)⟩) [13, 11] rfl (by decide) rfl hl.1 rfl (lv_room (Nat.le_of_ble_eq_true rfl)) dX9_setTempo_29 ⟨(Nat.le_of_ble_eq_true rfl), (Nat.le_of_ble_eq_true rfl)⟩) hP hD hS hA [13, 11] [0, 1, 2, 3, 4, 5, 6, 7, 8, 9, 10, 12, 14, 15, 16, 17, 18, 19, 20] rfl rfl (by decide) (by decide) (fun u4 H locs hP hD hS => ?_)
  have hP : va_P g.1 vwCl [(q1, .inr (11, [.ref q19, w9, w10, w11, w12, w13, w14, w15, w16, w17, w18])), (q23, .inl (g.2 3, 10, .inr (.inr (.inr (.inr f24))))), (q19, .inr (10, [.ref q23, .int 0, .int 0])), (q28, .inr (8, [.ref q47, .ref q48, .ref q49, .ref q50, .int 0, .int 4, .int 0])), (q26, .inr (8, [.ref q36, .ref q37, .ref q38, .ref q39, .int 0, .int 4, .int 0])), (q36, .inr (5, [.ref q57, .ref q58])), (q47, .inr (5, [.ref q53, .ref q54])), (q57, .inl (g.2 0, 384, .inl f59)), (q53, .inl (g.2 0, 384, .inl f59)), (q58, .inl (g.2 0, 40, .inl f60)), (q54, .inl (g.2 0, 40, .inl f60)), (q48, .inr (9, [.ref q65, .ref q66, .int 1, .int 0])), (q65, .inl (g.2 0, 10, .inl f59)), (q72, .inl (g.2 0, 10, .inl f73)), (q66, .inl (g.2 0, 10, .inl f73)), (q38, .inl (g.2 0, 60, .inl f59)), (q49, .inl (g.2 0, 60, .inl f59)), (q39, .inl (g.2 0, 20, .inl f74)), (q50, .inl (g.2 0, 20, .inl f74)), (q71, .inl (g.2 0, 10, .inl f59)), (q37, .inr (9, [.ref q71, .ref q72, .int 1, .int 0]))] H := hP
  have hD : va_D A [(q1, .inr (11, [.ref q19, w9, w10, w11, w12, w13, w14, w15, w16, w17, w18])), (q23, .inl (g.2 3, 10, .inr (.inr (.inr (.inr f24))))), (q19, .inr (10, [.ref q23, .int 0, .int 0])), (q28, .inr (8, [.ref q47, .ref q48, .ref q49, .ref q50, .int 0, .int 4, .int 0])), (q26, .inr (8, [.ref q36, .ref q37, .ref q38, .ref q39, .int 0, .int 4, .int 0])), (q36, .inr (5, [.ref q57, .ref q58])), (q47, .inr (5, [.ref q53, .ref q54])), (q57, .inl (g.2 0, 384, .inl f59)), (q53, .inl (g.2 0, 384, .inl f59)), (q58, .inl (g.2 0, 40, .inl f60)), (q54, .inl (g.2 0, 40, .inl f60)), (q48, .inr (9, [.ref q65, .ref q66, .int 1, .int 0])), (q65, .inl (g.2 0, 10, .inl f59)), (q72, .inl (g.2 0, 10, .inl f73)), (q66, .inl (g.2 0, 10, .inl f73)), (q38, .inl (g.2 0, 60, .inl f59)), (q49, .inl (g.2 0, 60, .inl f59)), (q39, .inl (g.2 0, 20, .inl f74)), (q50, .inl (g.2 0, 20, .inl f74)), (q71, .inl (g.2 0, 10, .inl f59)), (q37, .inr (9, [.ref q71, .ref q72, .int 1, .int 0]))] := hD
  refine lv_istore (lv' := [(4, .int (-1)), (3, .ref q26), (0, .ref q1), (1, .int x2), (2, .int x3)]) hx hb dX9_setTempo_32 hl (by decide) rfl (fun ls hl => ?_)
  refine lv_iload hx hb dX9_setTempo_34 (lv_at hl 0 rfl) ?_
  refine lv_iconst (v := (-1)) hx hb dX9_setTempo_36 (by decide) ?_
  refine lv_icmp_eq (tgt := 53) hx hb dX9_setTempo_37 (by decide) (fun _ => ?_) (fun h => absurd (by decide) h)
  refine lv_aload_n hx hb dX9_setTempo_53 rfl (lv_at hl 1 rfl) ?_
  refine gf_RX9_193 hx hb hown hE hP 4 rfl rfl dX9_setTempo_54 ?_
  refine g_i (wr := [(q1, .inr (11, [.ref q19, w9, w10, w11, w12, w13, w14, w15, w16, w17, w18])), (q23, .inl (g.2 3, 10, .inr (.inr (.inr (.inr f24))))), (q19, .inr (10, [.ref q23, .int 0, .int 0])), (q28, .inr (8, [.ref q47, .ref q48, .ref q49, .ref q50, .int 0, .int 4, .int 0])), (q26, .inr (8, [.ref q36, .ref q37, .ref q38, .ref q39, .int 0, .int 4, .int 0])), (q36, .inr (5, [.ref q57, .ref q58])), (q47, .inr (5, [.ref q53, .ref q54])), (q57, .inl (g.2 0, 384, .inl f59)), (q53, .inl (g.2 0, 384, .inl f59)), (q58, .inl (g.2 0, 40, .inl f60)), (q54, .inl (g.2 0, 40, .inl f60)), (q48, .inr (9, [.ref q65, .ref q66, .int 1, .int 0])), (q65, .inl (g.2 0, 10, .inl f59)), (q72, .inl (g.2 0, 10, .inl f73)), (q66, .inl (g.2 0, 10, .inl f73)), (q38, .inl (g.2 0, 60, .inl f59)), (q49, .inl (g.2 0, 60, .inl f59)), (q39, .inl (g.2 0, 20, .inl f74)), (q50, .inl (g.2 0, 20, .inl f74)), (q71, .inl (g.2 0, 10, .inl f59))]) (rV (rest := []) hx hb hml hown hE hP hD 20 rfl rfl (c1658_X7_placeCount l g q37 (.ref q71) (.ref q72) (.int 0) H.size) (kV_X7_placeCount hE (e865 hE) rfl rfl ⟨(Nat.le_of_ble_eq_true rfl), (Nat.le_of_ble_eq_true rfl)⟩) [20] rfl (by decide) rfl hl.1 rfl (lv_room (Nat.le_of_ble_eq_true rfl)) dX9_setTempo_57 ⟨(Nat.le_of_ble_eq_true rfl), (Nat.le_of_ble_eq_true rfl)⟩) hP hD hS hA [20] [0, 1, 2, 3, 4, 5, 6, 7, 8, 9, 10, 11, 12, 13, 14, 15, 16, 17, 18, 19] rfl rfl (by decide) (by decide) (fun u5 H locs hP hD hS => ?_)
  have hP : va_P g.1 vwCl [(q1, .inr (11, [.ref q19, w9, w10, w11, w12, w13, w14, w15, w16, w17, w18])), (q23, .inl (g.2 3, 10, .inr (.inr (.inr (.inr f24))))), (q19, .inr (10, [.ref q23, .int 0, .int 0])), (q28, .inr (8, [.ref q47, .ref q48, .ref q49, .ref q50, .int 0, .int 4, .int 0])), (q26, .inr (8, [.ref q36, .ref q37, .ref q38, .ref q39, .int 0, .int 4, .int 0])), (q36, .inr (5, [.ref q57, .ref q58])), (q47, .inr (5, [.ref q53, .ref q54])), (q57, .inl (g.2 0, 384, .inl f59)), (q53, .inl (g.2 0, 384, .inl f59)), (q58, .inl (g.2 0, 40, .inl f60)), (q54, .inl (g.2 0, 40, .inl f60)), (q48, .inr (9, [.ref q65, .ref q66, .int 1, .int 0])), (q65, .inl (g.2 0, 10, .inl f59)), (q72, .inl (g.2 0, 10, .inl f73)), (q66, .inl (g.2 0, 10, .inl f73)), (q38, .inl (g.2 0, 60, .inl f59)), (q49, .inl (g.2 0, 60, .inl f59)), (q39, .inl (g.2 0, 20, .inl f74)), (q50, .inl (g.2 0, 20, .inl f74)), (q71, .inl (g.2 0, 10, .inl f59)), (q37, .inr (9, [.ref q71, .ref q72, .int 1, .int 0]))] H := hP
  have hD : va_D A [(q1, .inr (11, [.ref q19, w9, w10, w11, w12, w13, w14, w15, w16, w17, w18])), (q23, .inl (g.2 3, 10, .inr (.inr (.inr (.inr f24))))), (q19, .inr (10, [.ref q23, .int 0, .int 0])), (q28, .inr (8, [.ref q47, .ref q48, .ref q49, .ref q50, .int 0, .int 4, .int 0])), (q26, .inr (8, [.ref q36, .ref q37, .ref q38, .ref q39, .int 0, .int 4, .int 0])), (q36, .inr (5, [.ref q57, .ref q58])), (q47, .inr (5, [.ref q53, .ref q54])), (q57, .inl (g.2 0, 384, .inl f59)), (q53, .inl (g.2 0, 384, .inl f59)), (q58, .inl (g.2 0, 40, .inl f60)), (q54, .inl (g.2 0, 40, .inl f60)), (q48, .inr (9, [.ref q65, .ref q66, .int 1, .int 0])), (q65, .inl (g.2 0, 10, .inl f59)), (q72, .inl (g.2 0, 10, .inl f73)), (q66, .inl (g.2 0, 10, .inl f73)), (q38, .inl (g.2 0, 60, .inl f59)), (q49, .inl (g.2 0, 60, .inl f59)), (q39, .inl (g.2 0, 20, .inl f74)), (q50, .inl (g.2 0, 20, .inl f74)), (q71, .inl (g.2 0, 10, .inl f59)), (q37, .inr (9, [.ref q71, .ref q72, .int 1, .int 0]))] := hD
  refine lv_bipush (v := 10) hx hb dX9_setTempo_60 (by decide) ?_
  refine lv_icmp_ge (tgt := 77) hx hb dX9_setTempo_62 (by decide) (fun h => absurd h (by decide)) (fun _ => ?_)
  refine lv_aload_n hx hb dX9_setTempo_65 rfl (lv_at hl 1 rfl) ?_
  refine gf_RX9_193 hx hb hown hE hP 4 rfl rfl dX9_setTempo_66 ?_
  refine lv_iload_n hx hb dX9_setTempo_69 rfl (lv_at hl 3 rfl) ?_
  refine lv_iload_n hx hb dX9_setTempo_70 rfl (lv_at hl 4 rfl) ?_
  refine g_v (wr := [(q1, .inr (11, [.ref q19, w9, w10, w11, w12, w13, w14, w15, w16, w17, w18])), (q23, .inl (g.2 3, 10, .inr (.inr (.inr (.inr f24))))), (q19, .inr (10, [.ref q23, .int 0, .int 0])), (q28, .inr (8, [.ref q47, .ref q48, .ref q49, .ref q50, .int 0, .int 4, .int 0])), (q26, .inr (8, [.ref q36, .ref q37, .ref q38, .ref q39, .int 0, .int 4, .int 0])), (q36, .inr (5, [.ref q57, .ref q58])), (q47, .inr (5, [.ref q53, .ref q54])), (q57, .inl (g.2 0, 384, .inl f59)), (q53, .inl (g.2 0, 384, .inl f59)), (q58, .inl (g.2 0, 40, .inl f60)), (q54, .inl (g.2 0, 40, .inl f60)), (q48, .inr (9, [.ref q65, .ref q66, .int 1, .int 0])), (q65, .inl (g.2 0, 10, .inl f59)), (q66, .inl (g.2 0, 10, .inl f73)), (q38, .inl (g.2 0, 60, .inl f59)), (q49, .inl (g.2 0, 60, .inl f59)), (q39, .inl (g.2 0, 20, .inl f74)), (q50, .inl (g.2 0, 20, .inl f74))]) (rV (rest := []) hx hb hml hown hE hP hD 20 rfl rfl (c1709_X7_addPlace l g q37 q71 q72 x2 x3 (.int 0) f59 f73 (hf75) h4 H.size) (kV_X7_addPlace hE (e916 hE) rfl rfl ⟨(Nat.le_of_ble_eq_true rfl), (Nat.le_of_ble_eq_true rfl)⟩) [13, 19, 20] rfl (by decide) rfl hl.1 rfl (lv_room (Nat.le_of_ble_eq_true rfl)) dX9_setTempo_71 ⟨(Nat.le_of_ble_eq_true rfl), (Nat.le_of_ble_eq_true rfl)⟩) hP hD hS hA [13, 19, 20] [0, 1, 2, 3, 4, 5, 6, 7, 8, 9, 10, 11, 12, 14, 15, 16, 17, 18] rfl rfl (by decide) (by decide) (fun u6 H locs hP hD hS => ?_)
  have hP : va_P g.1 vwCl [(q1, .inr (11, [.ref q19, w9, w10, w11, w12, w13, w14, w15, w16, w17, w18])), (q23, .inl (g.2 3, 10, .inr (.inr (.inr (.inr f24))))), (q19, .inr (10, [.ref q23, .int 0, .int 0])), (q28, .inr (8, [.ref q47, .ref q48, .ref q49, .ref q50, .int 0, .int 4, .int 0])), (q26, .inr (8, [.ref q36, .ref q37, .ref q38, .ref q39, .int 0, .int 4, .int 0])), (q36, .inr (5, [.ref q57, .ref q58])), (q47, .inr (5, [.ref q53, .ref q54])), (q57, .inl (g.2 0, 384, .inl f59)), (q53, .inl (g.2 0, 384, .inl f59)), (q58, .inl (g.2 0, 40, .inl f60)), (q54, .inl (g.2 0, 40, .inl f60)), (q48, .inr (9, [.ref q65, .ref q66, .int 1, .int 0])), (q65, .inl (g.2 0, 10, .inl f59)), (q66, .inl (g.2 0, 10, .inl f73)), (q38, .inl (g.2 0, 60, .inl f59)), (q49, .inl (g.2 0, 60, .inl f59)), (q39, .inl (g.2 0, 20, .inl f74)), (q50, .inl (g.2 0, 20, .inl f74)), (q72, .inl (g.2 0, 10, .inl (upd f73 1 x3))), (q71, .inl (g.2 0, 10, .inl (upd f59 1 x2))), (q37, .inr (9, [.ref q71, .ref q72, .int 2, .int 0]))] H := hP
  have hD : va_D A [(q1, .inr (11, [.ref q19, w9, w10, w11, w12, w13, w14, w15, w16, w17, w18])), (q23, .inl (g.2 3, 10, .inr (.inr (.inr (.inr f24))))), (q19, .inr (10, [.ref q23, .int 0, .int 0])), (q28, .inr (8, [.ref q47, .ref q48, .ref q49, .ref q50, .int 0, .int 4, .int 0])), (q26, .inr (8, [.ref q36, .ref q37, .ref q38, .ref q39, .int 0, .int 4, .int 0])), (q36, .inr (5, [.ref q57, .ref q58])), (q47, .inr (5, [.ref q53, .ref q54])), (q57, .inl (g.2 0, 384, .inl f59)), (q53, .inl (g.2 0, 384, .inl f59)), (q58, .inl (g.2 0, 40, .inl f60)), (q54, .inl (g.2 0, 40, .inl f60)), (q48, .inr (9, [.ref q65, .ref q66, .int 1, .int 0])), (q65, .inl (g.2 0, 10, .inl f59)), (q66, .inl (g.2 0, 10, .inl f73)), (q38, .inl (g.2 0, 60, .inl f59)), (q49, .inl (g.2 0, 60, .inl f59)), (q39, .inl (g.2 0, 20, .inl f74)), (q50, .inl (g.2 0, 20, .inl f74)), (q72, .inl (g.2 0, 10, .inl (upd f73 1 x3))), (q71, .inl (g.2 0, 10, .inl (upd f59 1 x2))), (q37, .inr (9, [.ref q71, .ref q72, .int 2, .int 0]))] := hD
  refine lv_goto (tgt := 87) hx hb dX9_setTempo_74 (by decide) ?_
  refine lv_aload_n hx hb dX9_setTempo_87 rfl (lv_at hl 2 rfl) ?_
  refine g_v (wr := [(q23, .inl (g.2 3, 10, .inr (.inr (.inr (.inr f24))))), (q28, .inr (8, [.ref q47, .ref q48, .ref q49, .ref q50, .int 0, .int 4, .int 0])), (q26, .inr (8, [.ref q36, .ref q37, .ref q38, .ref q39, .int 0, .int 4, .int 0])), (q36, .inr (5, [.ref q57, .ref q58])), (q47, .inr (5, [.ref q53, .ref q54])), (q57, .inl (g.2 0, 384, .inl f59)), (q53, .inl (g.2 0, 384, .inl f59)), (q58, .inl (g.2 0, 40, .inl f60)), (q54, .inl (g.2 0, 40, .inl f60)), (q48, .inr (9, [.ref q65, .ref q66, .int 1, .int 0])), (q65, .inl (g.2 0, 10, .inl f59)), (q66, .inl (g.2 0, 10, .inl f73)), (q38, .inl (g.2 0, 60, .inl f59)), (q49, .inl (g.2 0, 60, .inl f59)), (q39, .inl (g.2 0, 20, .inl f74)), (q50, .inl (g.2 0, 20, .inl f74)), (q72, .inl (g.2 0, 10, .inl (upd f73 1 x3))), (q71, .inl (g.2 0, 10, .inl (upd f59 1 x2))), (q37, .inr (9, [.ref q71, .ref q72, .int 2, .int 0]))]) (rV (rest := []) hx hb hml hown hE hP hD 0 rfl rfl (c191_X9_accept l g q1 q19 w9 w10 w11 w12 w13 w14 w15 w16 w17 w18 (.ref q23) H.size) (kV_X9_accept hE (e718 hE) rfl rfl ⟨(Nat.le_of_ble_eq_true rfl), (Nat.le_of_ble_eq_true rfl)⟩) [2, 0] rfl (by decide) rfl hl.1 rfl (lv_room (Nat.le_of_ble_eq_true rfl)) dX9_setTempo_88 ⟨(Nat.le_of_ble_eq_true rfl), (Nat.le_of_ble_eq_true rfl)⟩) hP hD hS hA [2, 0] [1, 3, 4, 5, 6, 7, 8, 9, 10, 11, 12, 13, 14, 15, 16, 17, 18, 19, 20] rfl rfl (by decide) (by decide) (fun u7 H locs hP hD hS => ?_)
  have hP : va_P g.1 vwCl [(q23, .inl (g.2 3, 10, .inr (.inr (.inr (.inr f24))))), (q28, .inr (8, [.ref q47, .ref q48, .ref q49, .ref q50, .int 0, .int 4, .int 0])), (q26, .inr (8, [.ref q36, .ref q37, .ref q38, .ref q39, .int 0, .int 4, .int 0])), (q36, .inr (5, [.ref q57, .ref q58])), (q47, .inr (5, [.ref q53, .ref q54])), (q57, .inl (g.2 0, 384, .inl f59)), (q53, .inl (g.2 0, 384, .inl f59)), (q58, .inl (g.2 0, 40, .inl f60)), (q54, .inl (g.2 0, 40, .inl f60)), (q48, .inr (9, [.ref q65, .ref q66, .int 1, .int 0])), (q65, .inl (g.2 0, 10, .inl f59)), (q66, .inl (g.2 0, 10, .inl f73)), (q38, .inl (g.2 0, 60, .inl f59)), (q49, .inl (g.2 0, 60, .inl f59)), (q39, .inl (g.2 0, 20, .inl f74)), (q50, .inl (g.2 0, 20, .inl f74)), (q72, .inl (g.2 0, 10, .inl (upd f73 1 x3))), (q71, .inl (g.2 0, 10, .inl (upd f59 1 x2))), (q37, .inr (9, [.ref q71, .ref q72, .int 2, .int 0])), (q19, .inr (10, [.ref q23, .int 1, .int 1])), (q1, .inr (11, [.ref q19, w9, w10, w11, w12, w13, w14, w15, .int 0, .int 0, w18]))] H := hP
  have hD : va_D A [(q23, .inl (g.2 3, 10, .inr (.inr (.inr (.inr f24))))), (q28, .inr (8, [.ref q47, .ref q48, .ref q49, .ref q50, .int 0, .int 4, .int 0])), (q26, .inr (8, [.ref q36, .ref q37, .ref q38, .ref q39, .int 0, .int 4, .int 0])), (q36, .inr (5, [.ref q57, .ref q58])), (q47, .inr (5, [.ref q53, .ref q54])), (q57, .inl (g.2 0, 384, .inl f59)), (q53, .inl (g.2 0, 384, .inl f59)), (q58, .inl (g.2 0, 40, .inl f60)), (q54, .inl (g.2 0, 40, .inl f60)), (q48, .inr (9, [.ref q65, .ref q66, .int 1, .int 0])), (q65, .inl (g.2 0, 10, .inl f59)), (q66, .inl (g.2 0, 10, .inl f73)), (q38, .inl (g.2 0, 60, .inl f59)), (q49, .inl (g.2 0, 60, .inl f59)), (q39, .inl (g.2 0, 20, .inl f74)), (q50, .inl (g.2 0, 20, .inl f74)), (q72, .inl (g.2 0, 10, .inl (upd f73 1 x3))), (q71, .inl (g.2 0, 10, .inl (upd f59 1 x2))), (q37, .inr (9, [.ref q71, .ref q72, .int 2, .int 0])), (q19, .inr (10, [.ref q23, .int 1, .int 1])), (q1, .inr (11, [.ref q19, w9, w10, w11, w12, w13, w14, w15, .int 0, .int 0, w18]))] := hD
  refine lv_aload_n hx hb dX9_setTempo_91 rfl (lv_at hl 1 rfl) ?_
  refine gf_RX9_193 hx hb hown hE hP 2 rfl rfl dX9_setTempo_92 ?_
  refine g_i (wr := [(q23, .inl (g.2 3, 10, .inr (.inr (.inr (.inr f24))))), (q28, .inr (8, [.ref q47, .ref q48, .ref q49, .ref q50, .int 0, .int 4, .int 0])), (q26, .inr (8, [.ref q36, .ref q37, .ref q38, .ref q39, .int 0, .int 4, .int 0])), (q36, .inr (5, [.ref q57, .ref q58])), (q47, .inr (5, [.ref q53, .ref q54])), (q57, .inl (g.2 0, 384, .inl f59)), (q53, .inl (g.2 0, 384, .inl f59)), (q58, .inl (g.2 0, 40, .inl f60)), (q54, .inl (g.2 0, 40, .inl f60)), (q48, .inr (9, [.ref q65, .ref q66, .int 1, .int 0])), (q65, .inl (g.2 0, 10, .inl f59)), (q66, .inl (g.2 0, 10, .inl f73)), (q38, .inl (g.2 0, 60, .inl f59)), (q49, .inl (g.2 0, 60, .inl f59)), (q39, .inl (g.2 0, 20, .inl f74)), (q50, .inl (g.2 0, 20, .inl f74)), (q72, .inl (g.2 0, 10, .inl (upd f73 1 x3))), (q71, .inl (g.2 0, 10, .inl (upd f59 1 x2))), (q19, .inr (10, [.ref q23, .int 1, .int 1])), (q1, .inr (11, [.ref q19, w9, w10, w11, w12, w13, w14, w15, .int 0, .int 0, w18]))]) (rV (rest := []) hx hb hml hown hE hP hD 18 rfl rfl (c1710_X7_placeCount l g q37 (.ref q71) (.ref q72) (.int 0) H.size) (kV_X7_placeCount hE (e865 hE) rfl rfl ⟨(Nat.le_of_ble_eq_true rfl), (Nat.le_of_ble_eq_true rfl)⟩) [18] rfl (by decide) rfl hl.1 rfl (lv_room (Nat.le_of_ble_eq_true rfl)) dX9_setTempo_95 ⟨(Nat.le_of_ble_eq_true rfl), (Nat.le_of_ble_eq_true rfl)⟩) hP hD hS hA [18] [0, 1, 2, 3, 4, 5, 6, 7, 8, 9, 10, 11, 12, 13, 14, 15, 16, 17, 19, 20] rfl rfl (by decide) (by decide) (fun u8 H locs hP hD hS => ?_)
  have hP : va_P g.1 vwCl [(q23, .inl (g.2 3, 10, .inr (.inr (.inr (.inr f24))))), (q28, .inr (8, [.ref q47, .ref q48, .ref q49, .ref q50, .int 0, .int 4, .int 0])), (q26, .inr (8, [.ref q36, .ref q37, .ref q38, .ref q39, .int 0, .int 4, .int 0])), (q36, .inr (5, [.ref q57, .ref q58])), (q47, .inr (5, [.ref q53, .ref q54])), (q57, .inl (g.2 0, 384, .inl f59)), (q53, .inl (g.2 0, 384, .inl f59)), (q58, .inl (g.2 0, 40, .inl f60)), (q54, .inl (g.2 0, 40, .inl f60)), (q48, .inr (9, [.ref q65, .ref q66, .int 1, .int 0])), (q65, .inl (g.2 0, 10, .inl f59)), (q66, .inl (g.2 0, 10, .inl f73)), (q38, .inl (g.2 0, 60, .inl f59)), (q49, .inl (g.2 0, 60, .inl f59)), (q39, .inl (g.2 0, 20, .inl f74)), (q50, .inl (g.2 0, 20, .inl f74)), (q72, .inl (g.2 0, 10, .inl (upd f73 1 x3))), (q71, .inl (g.2 0, 10, .inl (upd f59 1 x2))), (q19, .inr (10, [.ref q23, .int 1, .int 1])), (q1, .inr (11, [.ref q19, w9, w10, w11, w12, w13, w14, w15, .int 0, .int 0, w18])), (q37, .inr (9, [.ref q71, .ref q72, .int 2, .int 0]))] H := hP
  have hD : va_D A [(q23, .inl (g.2 3, 10, .inr (.inr (.inr (.inr f24))))), (q28, .inr (8, [.ref q47, .ref q48, .ref q49, .ref q50, .int 0, .int 4, .int 0])), (q26, .inr (8, [.ref q36, .ref q37, .ref q38, .ref q39, .int 0, .int 4, .int 0])), (q36, .inr (5, [.ref q57, .ref q58])), (q47, .inr (5, [.ref q53, .ref q54])), (q57, .inl (g.2 0, 384, .inl f59)), (q53, .inl (g.2 0, 384, .inl f59)), (q58, .inl (g.2 0, 40, .inl f60)), (q54, .inl (g.2 0, 40, .inl f60)), (q48, .inr (9, [.ref q65, .ref q66, .int 1, .int 0])), (q65, .inl (g.2 0, 10, .inl f59)), (q66, .inl (g.2 0, 10, .inl f73)), (q38, .inl (g.2 0, 60, .inl f59)), (q49, .inl (g.2 0, 60, .inl f59)), (q39, .inl (g.2 0, 20, .inl f74)), (q50, .inl (g.2 0, 20, .inl f74)), (q72, .inl (g.2 0, 10, .inl (upd f73 1 x3))), (q71, .inl (g.2 0, 10, .inl (upd f59 1 x2))), (q19, .inr (10, [.ref q23, .int 1, .int 1])), (q1, .inr (11, [.ref q19, w9, w10, w11, w12, w13, w14, w15, .int 0, .int 0, w18])), (q37, .inr (9, [.ref q71, .ref q72, .int 2, .int 0]))] := hD
  exact x_zret hx hb hr rfl rfl hlocks hP hD hS hAe hsz (Nat.le_of_ble_eq_true rfl) (Nat.le_of_ble_eq_true rfl) (fun _ => 0) [0, 1, 2, 3, 4, 5, 6, 7, 8, 9, 10, 11, 12, 13, 14, 15, 16, 17, 18, 19, 20] (by decide) rfl dX9_setTempo_98

set_option maxHeartbeats 4000000 in
set_option maxRecDepth 100000 in
theorem c1712_L_setTempo (l : Launch) (g : gG) (hlx : l.stackTraces = false) (q1 q4 q20 q24 q27 q29 q37 q38 q39 q40 q48 q49 q50 q51 q54 q55 q58 q59 q66 q67 q72 q73 : Nat) (x2 x3 : Int32) (w10 w11 w12 w13 w14 w15 w16 w17 w18 w19 w34 w35 w36 w70 w71 : Value) (f25 : Nat → Option Nat) (f60 : Nat → Int32) (f61 : Nat → Int32) (f74 : Nat → Int32) (f75 : Nat → Int32) (f78 : Nat → Int64) (hf26 : f25 1 = some q27) (hf28 : f25 0 = some q29) (hf76 : f60 0 = 0) (h5 : (0 : Int32) ≤ x2) (h6 : x2 ≤ 30000) (h7 : (1 : Int32) ≤ x3) (h8 : x3 ≤ 1000) (h77 : ¬ (0 : Int32) = x2) (sz : Nat) : Met l yL_setTempo [Cond.codeWith yL_setTempo cL_setTempo 5 (some .int) [(0, 10, 13, 15), (0, 10, 17, 17)]] ({ frames := 6, cells := 0, slots := 0, locals := 172 } : Room) (va_Pc [.ref q1, .int x2, .int x3, .ref q4] (PZ g sz [(q4, .inl (g.2 1, 1, .inr (.inl f78))), (q40, .inl (g.2 0, 20, .inl f75)), (q51, .inl (g.2 0, 20, .inl f75)), (q39, .inl (g.2 0, 60, .inl f60)), (q50, .inl (g.2 0, 60, .inl f60)), (q73, .inl (g.2 0, 10, .inl f74)), (q67, .inl (g.2 0, 10, .inl f74)), (q72, .inl (g.2 0, 10, .inl f60)), (q66, .inl (g.2 0, 10, .inl f60)), (q38, .inr (9, [.ref q72, .ref q73, w70, w71])), (q49, .inr (9, [.ref q66, .ref q67, .int 1, .int 0])), (q59, .inl (g.2 0, 40, .inl f61)), (q55, .inl (g.2 0, 40, .inl f61)), (q58, .inl (g.2 0, 384, .inl f60)), (q54, .inl (g.2 0, 384, .inl f60)), (q37, .inr (5, [.ref q58, .ref q59])), (q48, .inr (5, [.ref q54, .ref q55])), (q29, .inr (8, [.ref q48, .ref q49, .ref q50, .ref q51, .int 0, .int 4, .int 0])), (q27, .inr (8, [.ref q37, .ref q38, .ref q39, .ref q40, w34, w35, w36])), (q24, .inl (g.2 3, 10, .inr (.inr (.inr (.inr f25))))), (q20, .inr (10, [.ref q24, .int 0, .int 0])), (q1, .inr (11, [.ref q20, w10, w11, w12, w13, w14, w15, w16, w17, w18, w19]))])) (QI g [(q4, .inl (g.2 1, 1, .inr (.inl f78))), (q40, .inl (g.2 0, 20, .inl f75)), (q51, .inl (g.2 0, 20, .inl f75)), (q39, .inl (g.2 0, 60, .inl f60)), (q50, .inl (g.2 0, 60, .inl f60)), (q73, .inl (g.2 0, 10, .inl f74)), (q67, .inl (g.2 0, 10, .inl f74)), (q72, .inl (g.2 0, 10, .inl f60)), (q66, .inl (g.2 0, 10, .inl f60)), (q38, .inr (9, [.ref q72, .ref q73, w70, w71])), (q49, .inr (9, [.ref q66, .ref q67, .int 1, .int 0])), (q59, .inl (g.2 0, 40, .inl f61)), (q55, .inl (g.2 0, 40, .inl f61)), (q58, .inl (g.2 0, 384, .inl f60)), (q54, .inl (g.2 0, 384, .inl f60)), (q37, .inr (5, [.ref q58, .ref q59])), (q48, .inr (5, [.ref q54, .ref q55])), (q29, .inr (8, [.ref q48, .ref q49, .ref q50, .ref q51, .int 0, .int 4, .int 0])), (q27, .inr (8, [.ref q37, .ref q38, .ref q39, .ref q40, w34, w35, w36])), (q24, .inl (g.2 3, 10, .inr (.inr (.inr (.inr f25))))), (q20, .inr (10, [.ref q24, .int 0, .int 0])), (q1, .inr (11, [.ref q20, w10, w11, w12, w13, w14, w15, w16, w17, w18, w19]))] sz 0 (fun _ => [(q4, .inl (g.2 1, 1, .inr (.inl (vp_updL f78 0 2))))])) 0 0 (va_A [(q4, .inl (g.2 1, 1, .inr (.inl f78))), (q40, .inl (g.2 0, 20, .inl f75)), (q51, .inl (g.2 0, 20, .inl f75)), (q39, .inl (g.2 0, 60, .inl f60)), (q50, .inl (g.2 0, 60, .inl f60)), (q73, .inl (g.2 0, 10, .inl f74)), (q67, .inl (g.2 0, 10, .inl f74)), (q72, .inl (g.2 0, 10, .inl f60)), (q66, .inl (g.2 0, 10, .inl f60)), (q38, .inr (9, [.ref q72, .ref q73, w70, w71])), (q49, .inr (9, [.ref q66, .ref q67, .int 1, .int 0])), (q59, .inl (g.2 0, 40, .inl f61)), (q55, .inl (g.2 0, 40, .inl f61)), (q58, .inl (g.2 0, 384, .inl f60)), (q54, .inl (g.2 0, 384, .inl f60)), (q37, .inr (5, [.ref q58, .ref q59])), (q48, .inr (5, [.ref q54, .ref q55])), (q29, .inr (8, [.ref q48, .ref q49, .ref q50, .ref q51, .int 0, .int 4, .int 0])), (q27, .inr (8, [.ref q37, .ref q38, .ref q39, .ref q40, w34, w35, w36])), (q24, .inl (g.2 3, 10, .inr (.inr (.inr (.inr f25))))), (q20, .inr (10, [.ref q24, .int 0, .int 0])), (q1, .inr (11, [.ref q20, w10, w11, w12, w13, w14, w15, w16, w17, w18, w19]))] sz) := by
  refine ofH (by decide) (Nat.le_of_ble_eq_true rfl) rfl ?_
  intro p e s m args below meth c A ls hAe hsz hx hb hml hr hlocks hin hown hE hP hD hA hS hl htb hz
  have hown : s.vm.findClass RL = some m.cls := hown
  refine lv_aload_n hx hb dL_setTempo_0 rfl (lv_at hl 3 rfl) ?_
  refine lv_iconst (v := 0) hx hb dL_setTempo_1 (by decide) ?_
  refine lv_aload_n hx hb dL_setTempo_2 rfl (lv_at hl 0 rfl) ?_
  refine lv_iload_n hx hb dL_setTempo_3 rfl (lv_at hl 1 rfl) ?_
  refine lv_iload_n hx hb dL_setTempo_4 rfl (lv_at hl 2 rfl) ?_
  refine g_i (wr := [(q4, .inl (g.2 1, 1, .inr (.inl f78)))]) (rV (rest := [.int 0, .ref q4]) hx hb hml hown hE hP hD 21 rfl rfl (c1711_X9_setTempo l g q1 q20 q24 q27 q29 q37 q38 q39 q40 q48 q49 q50 q51 q54 q55 q58 q59 q66 q67 q72 q73 x2 x3 w10 w11 w12 w13 w14 w15 w16 w17 w18 w19 w34 w35 w36 w70 w71 f25 f60 f61 f74 f75 (hf26) (hf28) (hf76) h5 h6 h7 h8 h77 s.heap.size) (kV_X9_setTempo hE (e904 hE) rfl rfl ⟨(Nat.le_of_ble_eq_true rfl), (Nat.le_of_ble_eq_true rfl)⟩) [1, 2, 3, 4, 5, 6, 7, 8, 9, 10, 11, 12, 13, 14, 15, 16, 17, 18, 19, 20, 21] rfl (by decide) rfl hl.1 rfl (lv_room (Nat.le_of_ble_eq_true rfl)) dL_setTempo_5 ⟨(Nat.le_of_ble_eq_true rfl), (Nat.le_of_ble_eq_true rfl)⟩) hP hD hS hA [1, 2, 3, 4, 5, 6, 7, 8, 9, 10, 11, 12, 13, 14, 15, 16, 17, 18, 19, 20, 21] [0] rfl rfl (by decide) (by decide) (fun u1 H locs hP hD hS => ?_)
  have hP : va_P g.1 vwCl [(q4, .inl (g.2 1, 1, .inr (.inl f78))), (q24, .inl (g.2 3, 10, .inr (.inr (.inr (.inr f25))))), (q29, .inr (8, [.ref q48, .ref q49, .ref q50, .ref q51, .int 0, .int 4, .int 0])), (q27, .inr (8, [.ref q37, .ref q38, .ref q39, .ref q40, .int 0, .int 4, .int 0])), (q37, .inr (5, [.ref q58, .ref q59])), (q48, .inr (5, [.ref q54, .ref q55])), (q58, .inl (g.2 0, 384, .inl f60)), (q54, .inl (g.2 0, 384, .inl f60)), (q59, .inl (g.2 0, 40, .inl f61)), (q55, .inl (g.2 0, 40, .inl f61)), (q49, .inr (9, [.ref q66, .ref q67, .int 1, .int 0])), (q66, .inl (g.2 0, 10, .inl f60)), (q67, .inl (g.2 0, 10, .inl f74)), (q39, .inl (g.2 0, 60, .inl f60)), (q50, .inl (g.2 0, 60, .inl f60)), (q40, .inl (g.2 0, 20, .inl f75)), (q51, .inl (g.2 0, 20, .inl f75)), (q73, .inl (g.2 0, 10, .inl (upd f74 1 x3))), (q72, .inl (g.2 0, 10, .inl (upd f60 1 x2))), (q20, .inr (10, [.ref q24, .int 1, .int 1])), (q1, .inr (11, [.ref q20, w10, w11, w12, w13, w14, w15, w16, .int 0, .int 0, w19])), (q38, .inr (9, [.ref q72, .ref q73, .int 2, .int 0]))] H := hP
  have hD : va_D A [(q4, .inl (g.2 1, 1, .inr (.inl f78))), (q24, .inl (g.2 3, 10, .inr (.inr (.inr (.inr f25))))), (q29, .inr (8, [.ref q48, .ref q49, .ref q50, .ref q51, .int 0, .int 4, .int 0])), (q27, .inr (8, [.ref q37, .ref q38, .ref q39, .ref q40, .int 0, .int 4, .int 0])), (q37, .inr (5, [.ref q58, .ref q59])), (q48, .inr (5, [.ref q54, .ref q55])), (q58, .inl (g.2 0, 384, .inl f60)), (q54, .inl (g.2 0, 384, .inl f60)), (q59, .inl (g.2 0, 40, .inl f61)), (q55, .inl (g.2 0, 40, .inl f61)), (q49, .inr (9, [.ref q66, .ref q67, .int 1, .int 0])), (q66, .inl (g.2 0, 10, .inl f60)), (q67, .inl (g.2 0, 10, .inl f74)), (q39, .inl (g.2 0, 60, .inl f60)), (q50, .inl (g.2 0, 60, .inl f60)), (q40, .inl (g.2 0, 20, .inl f75)), (q51, .inl (g.2 0, 20, .inl f75)), (q73, .inl (g.2 0, 10, .inl (upd f74 1 x3))), (q72, .inl (g.2 0, 10, .inl (upd f60 1 x2))), (q20, .inr (10, [.ref q24, .int 1, .int 1])), (q1, .inr (11, [.ref q20, w10, w11, w12, w13, w14, w15, w16, .int 0, .int 0, w19])), (q38, .inr (9, [.ref q72, .ref q73, .int 2, .int 0]))] := hD
  refine lv_i2l (v := 2) hx hb dL_setTempo_8 (by decide) ?_
  refine x_last (ws' := [(q4, .inl (g.2 1, 1, .inr (.inl (vp_updL f78 0 2)))), (q24, .inl (g.2 3, 10, .inr (.inr (.inr (.inr f25))))), (q29, .inr (8, [.ref q48, .ref q49, .ref q50, .ref q51, .int 0, .int 4, .int 0])), (q27, .inr (8, [.ref q37, .ref q38, .ref q39, .ref q40, .int 0, .int 4, .int 0])), (q37, .inr (5, [.ref q58, .ref q59])), (q48, .inr (5, [.ref q54, .ref q55])), (q58, .inl (g.2 0, 384, .inl f60)), (q54, .inl (g.2 0, 384, .inl f60)), (q59, .inl (g.2 0, 40, .inl f61)), (q55, .inl (g.2 0, 40, .inl f61)), (q49, .inr (9, [.ref q66, .ref q67, .int 1, .int 0])), (q66, .inl (g.2 0, 10, .inl f60)), (q67, .inl (g.2 0, 10, .inl f74)), (q39, .inl (g.2 0, 60, .inl f60)), (q50, .inl (g.2 0, 60, .inl f60)), (q40, .inl (g.2 0, 20, .inl f75)), (q51, .inl (g.2 0, 20, .inl f75)), (q73, .inl (g.2 0, 10, .inl (upd f74 1 x3))), (q72, .inl (g.2 0, 10, .inl (upd f60 1 x2))), (q20, .inr (10, [.ref q24, .int 1, .int 1])), (q1, .inr (11, [.ref q20, w10, w11, w12, w13, w14, w15, w16, .int 0, .int 0, w19])), (q38, .inr (9, [.ref q72, .ref q73, .int 2, .int 0]))]) hx hb hE hP hD hS 0 rfl 0 (x_in (by decide)) (by decide) dL_setTempo_9 rfl (fun H locs hP hD hS => ?_)
  refine lv_goto (tgt := 21) hx hb dL_setTempo_10 (by decide) ?_
  refine lv_iconst (v := 0) hx hb dL_setTempo_21 (by decide) ?_
  exact x_zret hx hb hr rfl rfl hlocks hP hD hS hAe hsz (Nat.le_of_ble_eq_true rfl) (Nat.le_of_ble_eq_true rfl) (fun _ => 0) [0] (by decide) rfl dL_setTempo_22

set_option maxHeartbeats 4000000 in
set_option maxRecDepth 100000 in
theorem c1713_X10_in (l : Launch) (g : gG) (x1 : Int32) (h2 : (1 : Int32) ≤ x1) (h3 : x1 ≤ 1000) (sz : Nat) : Met l yX10_in [Cond.code yX10_in cX10_in 3 (some .boolean)] ({ frames := 0, cells := 0, slots := 0, locals := 0 } : Room) (va_Pc [.int x1, .int 1, .int 1000] (PX g sz [])) (QI g [] sz 1 (fun _ => [])) 0 0 (va_A [] sz) := by
  refine ofN (by decide) (Nat.le_of_ble_eq_true rfl) rfl ?_
  intro p e s m args below meth c A ls hAe hsz hx hb hml hr hlocks hin hown hE hP hD hA hS hl
  have hown : s.vm.findClass RX10 = some m.cls := hown
  refine lv_iload_n hx hb dX10_in_0 rfl (lv_at hl 0 rfl) ?_
  refine lv_iload_n hx hb dX10_in_1 rfl (lv_at hl 1 rfl) ?_
  refine lv_icmp_lt (tgt := 14) hx hb dX10_in_2 (by decide) (fun h => absurd h (i_nlt h2)) (fun _ => ?_)
  refine lv_iload_n hx hb dX10_in_5 rfl (lv_at hl 0 rfl) ?_
  refine lv_iload_n hx hb dX10_in_6 rfl (lv_at hl 2 rfl) ?_
  refine lv_icmp_gt (tgt := 14) hx hb dX10_in_7 (by decide) (fun h => absurd h (i_nlt h3)) (fun _ => ?_)
  refine lv_iconst (v := 1) hx hb dX10_in_10 (by decide) ?_
  refine lv_goto (tgt := 15) hx hb dX10_in_11 (by decide) ?_
  exact x_zret hx hb hr rfl rfl hlocks hP hD hS hAe hsz (Nat.le_of_ble_eq_true rfl) (Nat.le_of_ble_eq_true rfl) (fun _ => 0) [] (by decide) rfl dX10_in_15

set_option maxHeartbeats 4000000 in
set_option maxRecDepth 100000 in
theorem c1714_X10_keepNow (l : Launch) (g : gG) (q1 q39 q40 q43 : Nat) (w3 w5 w8 w9 w10 w11 w12 w13 w14 w15 w16 w17 w18 w19 w20 w21 w22 w23 w24 w25 w26 w27 w28 w29 w30 w31 w32 w33 w34 w35 w36 w37 w38 : Value) (f41 : Nat → Int32) (f42 : Nat → Int32) (sz : Nat) : Met l yX10_keepNow [Cond.code yX10_keepNow cX10_keepNow 1 none] ({ frames := 1, cells := 0, slots := 0, locals := 21 } : Room) (va_Pc [.ref q1] (PX g sz [(q43, .inl (g.2 0, 3976, .inl f42)), (q40, .inl (g.2 0, 497, .inl f42)), (q39, .inl (g.2 0, 497, .inl f41)), (q1, .inr (12, [.ref q39, w3, .ref q40, w5, .ref q43, .int 0, w8, w9, w10, w11, w12, w13, w14, w15, w16, w17, w18, w19, w20, w21, w22, w23, w24, w25, w26, w27, w28, w29, w30, w31, w32, w33, w34, w35, w36, w37, w38]))])) (QV g [(q43, .inl (g.2 0, 3976, .inl f42)), (q40, .inl (g.2 0, 497, .inl f42)), (q39, .inl (g.2 0, 497, .inl f41)), (q1, .inr (12, [.ref q39, w3, .ref q40, w5, .ref q43, .int 0, w8, w9, w10, w11, w12, w13, w14, w15, w16, w17, w18, w19, w20, w21, w22, w23, w24, w25, w26, w27, w28, w29, w30, w31, w32, w33, w34, w35, w36, w37, w38]))] sz (fun _ => [(q39, .inl (g.2 0, 497, .inl f41)), (q43, .inl (g.2 0, 3976, .inl (cpF 497 (cpF 497 f41 f42) f42))), (q40, .inl (g.2 0, 497, .inl (cpF 497 f41 f42))), (q1, .inr (12, [.ref q39, w3, .ref q40, w5, .ref q43, .int 1, w8, w9, w10, w11, w12, w13, w14, w15, w16, w17, w18, w19, w20, w21, w22, w23, w24, w25, w26, w27, w28, w29, w30, w31, w32, w33, w34, w35, w36, w37, w38]))])) 0 0 (va_A [(q43, .inl (g.2 0, 3976, .inl f42)), (q40, .inl (g.2 0, 497, .inl f42)), (q39, .inl (g.2 0, 497, .inl f41)), (q1, .inr (12, [.ref q39, w3, .ref q40, w5, .ref q43, .int 0, w8, w9, w10, w11, w12, w13, w14, w15, w16, w17, w18, w19, w20, w21, w22, w23, w24, w25, w26, w27, w28, w29, w30, w31, w32, w33, w34, w35, w36, w37, w38]))] sz) := by
  refine ofN (by decide) (Nat.le_of_ble_eq_true rfl) rfl ?_
  intro p e s m args below meth c A ls hAe hsz hx hb hml hr hlocks hin hown hE hP hD hA hS hl
  have hown : s.vm.findClass RX10 = some m.cls := hown
  refine lv_aload_n hx hb dX10_keepNow_0 rfl (lv_at hl 0 rfl) ?_
  refine g_v (wr := [(q43, .inl (g.2 0, 3976, .inl f42))]) (rV (rest := []) hx hb hml hown hE hP hD 3 rfl rfl (c198_X10_putAside l g q1 q40 q39 w3 w5 (.ref q43) (.int 0) w8 w9 w10 w11 w12 w13 w14 w15 w16 w17 w18 w19 w20 w21 w22 w23 w24 w25 w26 w27 w28 w29 w30 w31 w32 w33 w34 w35 w36 w37 w38 f41 f42 s.heap.size) (kV_X10_putAside hE (e1437 hE) rfl rfl ⟨(Nat.le_of_ble_eq_true rfl), (Nat.le_of_ble_eq_true rfl)⟩) [1, 2, 3] rfl (by decide) rfl hl.1 rfl (lv_room (Nat.le_of_ble_eq_true rfl)) dX10_keepNow_1 ⟨(Nat.le_of_ble_eq_true rfl), (Nat.le_of_ble_eq_true rfl)⟩) hP hD hS hA [1, 2, 3] [0] rfl rfl (by decide) (by decide) (fun u1 H locs hP hD hS => ?_)
  have hP : va_P g.1 vwCl [(q43, .inl (g.2 0, 3976, .inl f42)), (q40, .inl (g.2 0, 497, .inl (cpF 497 f41 f42))), (q39, .inl (g.2 0, 497, .inl f41)), (q1, .inr (12, [.ref q39, w3, .ref q40, w5, .ref q43, .int 0, w8, w9, w10, w11, w12, w13, w14, w15, w16, w17, w18, w19, w20, w21, w22, w23, w24, w25, w26, w27, w28, w29, w30, w31, w32, w33, w34, w35, w36, w37, w38]))] H := hP
  have hD : va_D A [(q43, .inl (g.2 0, 3976, .inl f42)), (q40, .inl (g.2 0, 497, .inl (cpF 497 f41 f42))), (q39, .inl (g.2 0, 497, .inl f41)), (q1, .inr (12, [.ref q39, w3, .ref q40, w5, .ref q43, .int 0, w8, w9, w10, w11, w12, w13, w14, w15, w16, w17, w18, w19, w20, w21, w22, w23, w24, w25, w26, w27, w28, w29, w30, w31, w32, w33, w34, w35, w36, w37, w38]))] := hD
  refine lv_aload_n hx hb dX10_keepNow_4 rfl (lv_at hl 0 rfl) ?_
  refine g_v (wr := [(q39, .inl (g.2 0, 497, .inl f41))]) (rV (rest := []) hx hb hml hown hE hP hD 3 rfl rfl (c220_X10_keep l g q1 q43 q40 (.ref q39) w3 w5 w8 w9 w10 w11 w12 w13 w14 w15 w16 w17 w18 w19 w20 w21 w22 w23 w24 w25 w26 w27 w28 w29 w30 w31 w32 w33 w34 w35 w36 w37 w38 (cpF 497 f41 f42) f42 H.size) (kV_X10_keep hE (e1478 hE) rfl rfl ⟨(Nat.le_of_ble_eq_true rfl), (Nat.le_of_ble_eq_true rfl)⟩) [0, 1, 3] rfl (by decide) rfl hl.1 rfl (lv_room (Nat.le_of_ble_eq_true rfl)) dX10_keepNow_5 ⟨(Nat.le_of_ble_eq_true rfl), (Nat.le_of_ble_eq_true rfl)⟩) hP hD hS hA [0, 1, 3] [2] rfl rfl (by decide) (by decide) (fun u2 H locs hP hD hS => ?_)
  have hP : va_P g.1 vwCl [(q39, .inl (g.2 0, 497, .inl f41)), (q43, .inl (g.2 0, 3976, .inl (cpF 497 (cpF 497 f41 f42) f42))), (q40, .inl (g.2 0, 497, .inl (cpF 497 f41 f42))), (q1, .inr (12, [.ref q39, w3, .ref q40, w5, .ref q43, .int 1, w8, w9, w10, w11, w12, w13, w14, w15, w16, w17, w18, w19, w20, w21, w22, w23, w24, w25, w26, w27, w28, w29, w30, w31, w32, w33, w34, w35, w36, w37, w38]))] H := hP
  have hD : va_D A [(q39, .inl (g.2 0, 497, .inl f41)), (q43, .inl (g.2 0, 3976, .inl (cpF 497 (cpF 497 f41 f42) f42))), (q40, .inl (g.2 0, 497, .inl (cpF 497 f41 f42))), (q1, .inr (12, [.ref q39, w3, .ref q40, w5, .ref q43, .int 1, w8, w9, w10, w11, w12, w13, w14, w15, w16, w17, w18, w19, w20, w21, w22, w23, w24, w25, w26, w27, w28, w29, w30, w31, w32, w33, w34, w35, w36, w37, w38]))] := hD
  exact x_vret hx hb hr hlocks hP hD hS hAe hsz (Nat.le_of_ble_eq_true rfl) (Nat.le_of_ble_eq_true rfl) (fun _ => 0) [0, 1, 2, 3] (by decide) rfl dX10_keepNow_8

set_option maxHeartbeats 4000000 in
set_option maxRecDepth 100000 in
theorem c1715_X10_setTempo (l : Launch) (g : gG) (q1 q45 q51 q53 : Nat) (x2 x3 : Int32) (w5 w7 w10 w11 w12 w13 w14 w15 w16 w17 w18 w19 w20 w21 w22 w23 w24 w25 w26 w27 w28 w29 w30 w31 w32 w33 w34 w35 w36 w37 w38 w39 w40 : Value) (f46 : Nat → Int32) (f52 : Nat → Int32) (hf47 : f46 453 = 1) (hf48 : f46 454 = 0) (hf54 : f46 455 = 100) (hf55 : f46 456 = 0) (h41 : (0 : Int32) ≤ x2) (h42 : x2 ≤ 30000) (h43 : (1 : Int32) ≤ x3) (h44 : x3 ≤ 1000) (h49 : x2 ≤ 0) (h50 : ¬ (0 : Int32) = x2) (sz : Nat) : Met l yX10_setTempo [Cond.code yX10_setTempo cX10_setTempo 6 (some .int)] ({ frames := 2, cells := 0, slots := 0, locals := 41 } : Room) (va_Pc [.ref q1, .int x2, .int x3] (PX g sz [(q53, .inl (g.2 0, 3976, .inl f52)), (q51, .inl (g.2 0, 497, .inl f52)), (q45, .inl (g.2 0, 497, .inl f46)), (q1, .inr (12, [.ref q45, w5, .ref q51, w7, .ref q53, .int 0, w10, w11, w12, w13, w14, w15, w16, w17, w18, w19, w20, w21, w22, w23, w24, w25, w26, w27, w28, w29, w30, w31, w32, w33, w34, w35, w36, w37, w38, w39, w40]))])) (QI g [(q53, .inl (g.2 0, 3976, .inl f52)), (q51, .inl (g.2 0, 497, .inl f52)), (q45, .inl (g.2 0, 497, .inl f46)), (q1, .inr (12, [.ref q45, w5, .ref q51, w7, .ref q53, .int 0, w10, w11, w12, w13, w14, w15, w16, w17, w18, w19, w20, w21, w22, w23, w24, w25, w26, w27, w28, w29, w30, w31, w32, w33, w34, w35, w36, w37, w38, w39, w40]))] sz 2 (fun _ => [(q1, .inr (12, [.ref q45, w5, .ref q51, w7, .ref q53, .int 1, .int 0, w11, w12, w13, w14, w15, w16, w17, w18, w19, w20, w21, w22, w23, w24, w25, w26, w27, w28, w29, w30, w31, w32, w33, w34, w35, w36, w37, w38, w39, w40]))])) 0 0 (va_A [(q53, .inl (g.2 0, 3976, .inl f52)), (q51, .inl (g.2 0, 497, .inl f52)), (q45, .inl (g.2 0, 497, .inl f46)), (q1, .inr (12, [.ref q45, w5, .ref q51, w7, .ref q53, .int 0, w10, w11, w12, w13, w14, w15, w16, w17, w18, w19, w20, w21, w22, w23, w24, w25, w26, w27, w28, w29, w30, w31, w32, w33, w34, w35, w36, w37, w38, w39, w40]))] sz) := by
  refine ofN (by decide) (Nat.le_of_ble_eq_true rfl) rfl ?_
  intro p e s m args below meth c A ls hAe hsz hx hb hml hr hlocks hin hown hE hP hD hA hS hl
  have hown : s.vm.findClass RX10 = some m.cls := hown
  refine lv_aload_n hx hb dX10_setTempo_0 rfl (lv_at hl 0 rfl) ?_
  refine lv_iconst (v := 0) hx hb dX10_setTempo_1 (by decide) ?_
  refine pf_RX10_86 (ws' := [(q53, .inl (g.2 0, 3976, .inl f52)), (q51, .inl (g.2 0, 497, .inl f52)), (q45, .inl (g.2 0, 497, .inl f46)), (q1, .inr (12, [.ref q45, w5, .ref q51, w7, .ref q53, .int 0, .int 0, w11, w12, w13, w14, w15, w16, w17, w18, w19, w20, w21, w22, w23, w24, w25, w26, w27, w28, w29, w30, w31, w32, w33, w34, w35, w36, w37, w38, w39, w40]))]) hx hb hown hE hP hD hS 3 rfl rfl rfl (Nat.le_of_ble_eq_true rfl) dX10_setTempo_2 rfl (fun H locs hP hD hS => ?_)
  refine lv_iload_n hx hb dX10_setTempo_5 rfl (lv_at hl 1 rfl) ?_
  refine lv_iconst (v := 0) hx hb dX10_setTempo_6 (by decide) ?_
  refine lv_sipush (v := 30000) hx hb dX10_setTempo_7 (by decide) ?_
  refine g0_i (rS (rest := []) hx hb hml hown hE hP hD (c1703_X10_in l g x2 h41 h42 H.size) (kS_X10_in hE (e1431 hE) rfl rfl ⟨(Nat.le_of_ble_eq_true rfl), (Nat.le_of_ble_eq_true rfl)⟩) [] rfl (by decide) rfl hl.1 rfl (lv_room (Nat.le_of_ble_eq_true rfl)) dX10_setTempo_10 ⟨(Nat.le_of_ble_eq_true rfl), (Nat.le_of_ble_eq_true rfl)⟩) hP hD hS hA (fun u9 H locs hP hS => ?_)
  refine lv_if_eq (tgt := 27) hx hb dX10_setTempo_13 (by decide) (fun h => absurd h (by decide)) (fun _ => ?_)
  refine lv_iload_n hx hb dX10_setTempo_16 rfl (lv_at hl 2 rfl) ?_
  refine lv_iconst (v := 1) hx hb dX10_setTempo_17 (by decide) ?_
  refine lv_sipush (v := 1000) hx hb dX10_setTempo_18 (by decide) ?_
  refine g0_i (rS (rest := []) hx hb hml hown hE hP hD (c1713_X10_in l g x3 h43 h44 H.size) (kS_X10_in hE (e1431 hE) rfl rfl ⟨(Nat.le_of_ble_eq_true rfl), (Nat.le_of_ble_eq_true rfl)⟩) [] rfl (by decide) rfl hl.1 rfl (lv_room (Nat.le_of_ble_eq_true rfl)) dX10_setTempo_21 ⟨(Nat.le_of_ble_eq_true rfl), (Nat.le_of_ble_eq_true rfl)⟩) hP hD hS hA (fun u9 H locs hP hS => ?_)
  refine lv_if_ne (tgt := 33) hx hb dX10_setTempo_24 (by decide) (fun _ => ?_) (fun h => absurd h (by decide))
  refine lv_iconst (v := 0) hx hb dX10_setTempo_33 (by decide) ?_
  refine lv_istore_n (lv' := [(3, .int 0), (0, .ref q1), (1, .int x2), (2, .int x3)]) hx hb dX10_setTempo_34 rfl hl (by decide) rfl (fun ls hl => ?_)
  refine lv_iload_n hx hb dX10_setTempo_35 rfl (lv_at hl 0 rfl) ?_
  refine lv_aload_n hx hb dX10_setTempo_36 rfl (lv_at hl 1 rfl) ?_
  refine gf_RX10_9 hx hb hown hE hP 3 rfl rfl dX10_setTempo_37 ?_
  refine lv_sipush (v := 453) hx hb dX10_setTempo_40 (by decide) ?_
  refine x_iald (v := 1) hx hb hE hP 2 rfl 453 (x_in (by decide)) (by decide) hf47 dX10_setTempo_43 ?_
  refine lv_icmp_ge (tgt := 69) hx hb dX10_setTempo_44 (by decide) (fun h => absurd h (by decide)) (fun _ => ?_)
  refine lv_aload_n hx hb dX10_setTempo_47 rfl (lv_at hl 1 rfl) ?_
  refine gf_RX10_9 hx hb hown hE hP 3 rfl rfl dX10_setTempo_48 ?_
  refine lv_sipush (v := 454) hx hb dX10_setTempo_51 (by decide) ?_
  refine lv_iconst (v := 2) hx hb dX10_setTempo_54 (by decide) ?_
  refine lv_iload_n hx hb dX10_setTempo_55 rfl (lv_at hl 0 rfl) ?_
  refine x_imul (v := 0) hx hb dX10_setTempo_56 (by decide) ?_
  refine x_iadd (v := 454) hx hb dX10_setTempo_57 (by decide) ?_
  refine x_iald (v := 0) hx hb hE hP 2 rfl 454 (x_in (by decide)) (by decide) hf48 dX10_setTempo_58 ?_
  refine lv_iload_n hx hb dX10_setTempo_59 rfl (lv_at hl 2 rfl) ?_
  refine lv_icmp_ge (tgt := 69) hx hb dX10_setTempo_60 (by decide) (fun _ => ?_) (fun h => absurd h49 h)
  refine lv_iload_n hx hb dX10_setTempo_69 rfl (lv_at hl 0 rfl) ?_
  refine lv_aload_n hx hb dX10_setTempo_70 rfl (lv_at hl 1 rfl) ?_
  refine gf_RX10_9 hx hb hown hE hP 3 rfl rfl dX10_setTempo_71 ?_
  refine lv_sipush (v := 453) hx hb dX10_setTempo_74 (by decide) ?_
  refine x_iald (v := 1) hx hb hE hP 2 rfl 453 (x_in (by decide)) (by decide) hf47 dX10_setTempo_77 ?_
  refine lv_icmp_ge (tgt := 101) hx hb dX10_setTempo_78 (by decide) (fun h => absurd h (by decide)) (fun _ => ?_)
  refine lv_aload_n hx hb dX10_setTempo_81 rfl (lv_at hl 1 rfl) ?_
  refine gf_RX10_9 hx hb hown hE hP 3 rfl rfl dX10_setTempo_82 ?_
  refine lv_sipush (v := 454) hx hb dX10_setTempo_85 (by decide) ?_
  refine lv_iconst (v := 2) hx hb dX10_setTempo_88 (by decide) ?_
  refine lv_iload_n hx hb dX10_setTempo_89 rfl (lv_at hl 0 rfl) ?_
  refine x_imul (v := 0) hx hb dX10_setTempo_90 (by decide) ?_
  refine x_iadd (v := 454) hx hb dX10_setTempo_91 (by decide) ?_
  refine x_iald (v := 0) hx hb hE hP 2 rfl 454 (x_in (by decide)) (by decide) hf48 dX10_setTempo_92 ?_
  refine lv_iload_n hx hb dX10_setTempo_93 rfl (lv_at hl 2 rfl) ?_
  refine lv_icmp_ne (tgt := 101) hx hb dX10_setTempo_94 (by decide) (fun _ => ?_) (fun h => absurd h h50)
  refine lv_iconst (v := 0) hx hb dX10_setTempo_101 (by decide) ?_
  refine lv_istore (lv' := [(4, .int 0), (3, .int 0), (0, .ref q1), (1, .int x2), (2, .int x3)]) hx hb dX10_setTempo_102 hl (by decide) rfl (fun ls hl => ?_)
  refine lv_iload hx hb dX10_setTempo_104 (lv_at hl 0 rfl) ?_
  refine lv_if_ne (tgt := 128) hx hb dX10_setTempo_106 (by decide) (fun h => absurd h (by decide)) (fun _ => ?_)
  refine lv_aload_n hx hb dX10_setTempo_109 rfl (lv_at hl 2 rfl) ?_
  refine gf_RX10_9 hx hb hown hE hP 3 rfl rfl dX10_setTempo_110 ?_
  refine lv_sipush (v := 453) hx hb dX10_setTempo_113 (by decide) ?_
  refine x_iald (v := 1) hx hb hE hP 2 rfl 453 (x_in (by decide)) (by decide) hf47 dX10_setTempo_116 ?_
  refine lv_bipush (v := 10) hx hb dX10_setTempo_117 (by decide) ?_
  refine lv_icmp_ne (tgt := 128) hx hb dX10_setTempo_119 (by decide) (fun _ => ?_) (fun h => absurd h (by decide))
  refine lv_aload_n hx hb dX10_setTempo_128 rfl (lv_at hl 2 rfl) ?_
  refine g_v (wr := []) (rV (rest := []) hx hb hml hown hE hP hD 3 rfl rfl (c1714_X10_keepNow l g q1 q45 q51 q53 w5 w7 (.int 0) w11 w12 w13 w14 w15 w16 w17 w18 w19 w20 w21 w22 w23 w24 w25 w26 w27 w28 w29 w30 w31 w32 w33 w34 w35 w36 w37 w38 w39 w40 f46 f52 H.size) (kV_X10_keepNow hE (e1494 hE) rfl rfl ⟨(Nat.le_of_ble_eq_true rfl), (Nat.le_of_ble_eq_true rfl)⟩) [0, 1, 2, 3] rfl (by decide) rfl hl.1 rfl (lv_room (Nat.le_of_ble_eq_true rfl)) dX10_setTempo_129 ⟨(Nat.le_of_ble_eq_true rfl), (Nat.le_of_ble_eq_true rfl)⟩) hP hD hS hA [0, 1, 2, 3] [] rfl rfl (by decide) (by decide) (fun u3 H locs hP hD hS => ?_)
  have hP : va_P g.1 vwCl [(q45, .inl (g.2 0, 497, .inl f46)), (q53, .inl (g.2 0, 3976, .inl (cpF 497 (cpF 497 f46 f52) f52))), (q51, .inl (g.2 0, 497, .inl (cpF 497 f46 f52))), (q1, .inr (12, [.ref q45, w5, .ref q51, w7, .ref q53, .int 1, .int 0, w11, w12, w13, w14, w15, w16, w17, w18, w19, w20, w21, w22, w23, w24, w25, w26, w27, w28, w29, w30, w31, w32, w33, w34, w35, w36, w37, w38, w39, w40]))] H := hP
  have hD : va_D A [(q45, .inl (g.2 0, 497, .inl f46)), (q53, .inl (g.2 0, 3976, .inl (cpF 497 (cpF 497 f46 f52) f52))), (q51, .inl (g.2 0, 497, .inl (cpF 497 f46 f52))), (q1, .inr (12, [.ref q45, w5, .ref q51, w7, .ref q53, .int 1, .int 0, w11, w12, w13, w14, w15, w16, w17, w18, w19, w20, w21, w22, w23, w24, w25, w26, w27, w28, w29, w30, w31, w32, w33, w34, w35, w36, w37, w38, w39, w40]))] := hD
  refine lv_iload hx hb dX10_setTempo_132 (lv_at hl 0 rfl) ?_
  refine lv_if_ne (tgt := 214) hx hb dX10_setTempo_134 (by decide) (fun h => absurd h (by decide)) (fun _ => ?_)
  refine lv_iconst (v := 2) hx hb dX10_setTempo_137 (by decide) ?_
  refine lv_aload_n hx hb dX10_setTempo_138 rfl (lv_at hl 2 rfl) ?_
  refine gf_RX10_9 hx hb hown hE hP 3 rfl rfl dX10_setTempo_139 ?_
  refine lv_sipush (v := 453) hx hb dX10_setTempo_142 (by decide) ?_
  refine x_iald (v := 1) hx hb hE hP 0 rfl 453 (x_in (by decide)) (by decide) hf47 dX10_setTempo_145 ?_
  refine x_imul (v := 2) hx hb dX10_setTempo_146 (by decide) ?_
  refine lv_iconst (v := 1) hx hb dX10_setTempo_147 (by decide) ?_
  refine x_isub (v := 1) hx hb dX10_setTempo_148 (by decide) ?_
  refine lv_istore (lv' := [(5, .int 1), (4, .int 0), (3, .int 0), (0, .ref q1), (1, .int x2), (2, .int x3)]) hx hb dX10_setTempo_149 hl (by decide) rfl (fun ls hl => ?_)
  refine lv_iload hx hb dX10_setTempo_151 (lv_at hl 0 rfl) ?_
  refine lv_iconst (v := 2) hx hb dX10_setTempo_153 (by decide) ?_
  refine lv_iload_n hx hb dX10_setTempo_154 rfl (lv_at hl 2 rfl) ?_
  refine x_imul (v := 0) hx hb dX10_setTempo_155 (by decide) ?_
  refine lv_icmp_lt (tgt := 189) hx hb dX10_setTempo_156 (by decide) (fun h => absurd h (by decide)) (fun _ => ?_)
  refine lv_aload_n hx hb dX10_setTempo_159 rfl (lv_at hl 3 rfl) ?_
  refine gf_RX10_9 hx hb hown hE hP 3 rfl rfl dX10_setTempo_160 ?_
  refine lv_sipush (v := 454) hx hb dX10_setTempo_163 (by decide) ?_
  refine lv_iload hx hb dX10_setTempo_166 (lv_at hl 0 rfl) ?_
  refine x_iadd (v := 455) hx hb dX10_setTempo_168 (by decide) ?_
  refine lv_iconst (v := 2) hx hb dX10_setTempo_169 (by decide) ?_
  refine x_iadd (v := 457) hx hb dX10_setTempo_170 (by decide) ?_
  refine lv_aload_n hx hb dX10_setTempo_171 rfl (lv_at hl 3 rfl) ?_
  refine gf_RX10_9 hx hb hown hE hP 3 rfl rfl dX10_setTempo_172 ?_
  refine lv_sipush (v := 454) hx hb dX10_setTempo_175 (by decide) ?_
  refine lv_iload hx hb dX10_setTempo_178 (lv_at hl 0 rfl) ?_
  refine x_iadd (v := 455) hx hb dX10_setTempo_180 (by decide) ?_
  refine x_iald (v := 100) hx hb hE hP 0 rfl 455 (x_in (by decide)) (by decide) hf54 dX10_setTempo_181 ?_
  refine x_iast (ws' := [(q45, .inl (g.2 0, 497, .inl (upd f46 457 100))), (q53, .inl (g.2 0, 3976, .inl (cpF 497 (cpF 497 f46 f52) f52))), (q51, .inl (g.2 0, 497, .inl (cpF 497 f46 f52))), (q1, .inr (12, [.ref q45, w5, .ref q51, w7, .ref q53, .int 1, .int 0, w11, w12, w13, w14, w15, w16, w17, w18, w19, w20, w21, w22, w23, w24, w25, w26, w27, w28, w29, w30, w31, w32, w33, w34, w35, w36, w37, w38, w39, w40]))]) hx hb hE hP hD hS 0 rfl 457 (x_in (by decide)) (by decide) dX10_setTempo_182 rfl (fun H locs hP hD hS => ?_)
  refine lv_iinc (v := 0) (lv' := [(5, .int 0), (4, .int 0), (3, .int 0), (0, .ref q1), (1, .int x2), (2, .int x3)]) hx hb dX10_setTempo_183 hl (k := 0) rfl (by decide) (by decide) rfl (fun ls hl => ?_)
  refine lv_goto (tgt := 151) hx hb dX10_setTempo_186 (by decide) ?_
  refine lv_iload hx hb dX10_setTempo_151 (lv_at hl 0 rfl) ?_
  refine lv_iconst (v := 2) hx hb dX10_setTempo_153 (by decide) ?_
  refine lv_iload_n hx hb dX10_setTempo_154 rfl (lv_at hl 2 rfl) ?_
  refine x_imul (v := 0) hx hb dX10_setTempo_155 (by decide) ?_
  refine lv_icmp_lt (tgt := 189) hx hb dX10_setTempo_156 (by decide) (fun h => absurd h (by decide)) (fun _ => ?_)
  refine lv_aload_n hx hb dX10_setTempo_159 rfl (lv_at hl 3 rfl) ?_
  refine gf_RX10_9 hx hb hown hE hP 3 rfl rfl dX10_setTempo_160 ?_
  refine lv_sipush (v := 454) hx hb dX10_setTempo_163 (by decide) ?_
  refine lv_iload hx hb dX10_setTempo_166 (lv_at hl 0 rfl) ?_
  refine x_iadd (v := 454) hx hb dX10_setTempo_168 (by decide) ?_
  refine lv_iconst (v := 2) hx hb dX10_setTempo_169 (by decide) ?_
  refine x_iadd (v := 456) hx hb dX10_setTempo_170 (by decide) ?_
  refine lv_aload_n hx hb dX10_setTempo_171 rfl (lv_at hl 3 rfl) ?_
  refine gf_RX10_9 hx hb hown hE hP 3 rfl rfl dX10_setTempo_172 ?_
  refine lv_sipush (v := 454) hx hb dX10_setTempo_175 (by decide) ?_
  refine lv_iload hx hb dX10_setTempo_178 (lv_at hl 0 rfl) ?_
  refine x_iadd (v := 454) hx hb dX10_setTempo_180 (by decide) ?_
  refine x_iald (v := 0) hx hb hE hP 0 rfl 454 (x_in (by decide)) (by decide) ((pk_un (by decide)).trans hf48) dX10_setTempo_181 ?_
  refine x_iast_same hx hb hE hP hD hS 0 rfl 456 (x_in (by decide)) (by decide) ((pk_un (by decide)).trans hf55) dX10_setTempo_182 (fun H locs hP hD hS => ?_)
  refine lv_iinc (v := (-1)) (lv' := [(5, .int (-1)), (4, .int 0), (3, .int 0), (0, .ref q1), (1, .int x2), (2, .int x3)]) hx hb dX10_setTempo_183 hl (k := 0) rfl (by decide) (by decide) rfl (fun ls hl => ?_)
  refine lv_goto (tgt := 151) hx hb dX10_setTempo_186 (by decide) ?_
  refine lv_iload hx hb dX10_setTempo_151 (lv_at hl 0 rfl) ?_
  refine lv_iconst (v := 2) hx hb dX10_setTempo_153 (by decide) ?_
  refine lv_iload_n hx hb dX10_setTempo_154 rfl (lv_at hl 2 rfl) ?_
  refine x_imul (v := 0) hx hb dX10_setTempo_155 (by decide) ?_
  refine lv_icmp_lt (tgt := 189) hx hb dX10_setTempo_156 (by decide) (fun _ => ?_) (fun h => absurd (by decide) h)
  refine lv_aload_n hx hb dX10_setTempo_189 rfl (lv_at hl 3 rfl) ?_
  refine gf_RX10_9 hx hb hown hE hP 3 rfl rfl dX10_setTempo_190 ?_
  refine lv_sipush (v := 453) hx hb dX10_setTempo_193 (by decide) ?_
  refine lv_dup2_11 hx hb dX10_setTempo_196 rfl rfl ?_
  refine x_iald (v := 1) hx hb hE hP 0 rfl 453 (x_in (by decide)) (by decide) ((pk_un (by decide)).trans hf47) dX10_setTempo_197 ?_
  refine lv_iconst (v := 1) hx hb dX10_setTempo_198 (by decide) ?_
  refine x_iadd (v := 2) hx hb dX10_setTempo_199 (by decide) ?_
  refine x_iast (ws' := [(q45, .inl (g.2 0, 497, .inl (upd (upd f46 457 100) 453 2))), (q53, .inl (g.2 0, 3976, .inl (cpF 497 (cpF 497 f46 f52) f52))), (q51, .inl (g.2 0, 497, .inl (cpF 497 f46 f52))), (q1, .inr (12, [.ref q45, w5, .ref q51, w7, .ref q53, .int 1, .int 0, w11, w12, w13, w14, w15, w16, w17, w18, w19, w20, w21, w22, w23, w24, w25, w26, w27, w28, w29, w30, w31, w32, w33, w34, w35, w36, w37, w38, w39, w40]))]) hx hb hE hP hD hS 0 rfl 453 (x_in (by decide)) (by decide) dX10_setTempo_200 rfl (fun H locs hP hD hS => ?_)
  refine lv_aload_n hx hb dX10_setTempo_201 rfl (lv_at hl 3 rfl) ?_
  refine gf_RX10_9 hx hb hown hE hP 3 rfl rfl dX10_setTempo_202 ?_
  refine lv_sipush (v := 454) hx hb dX10_setTempo_205 (by decide) ?_
  refine lv_iconst (v := 2) hx hb dX10_setTempo_208 (by decide) ?_
  refine lv_iload_n hx hb dX10_setTempo_209 rfl (lv_at hl 2 rfl) ?_
  refine x_imul (v := 0) hx hb dX10_setTempo_210 (by decide) ?_
  refine x_iadd (v := 454) hx hb dX10_setTempo_211 (by decide) ?_
  refine lv_iload_n hx hb dX10_setTempo_212 rfl (lv_at hl 4 rfl) ?_
  refine x_iast (ws' := [(q45, .inl (g.2 0, 497, .inl (upd (upd (upd f46 457 100) 453 2) 454 x2))), (q53, .inl (g.2 0, 3976, .inl (cpF 497 (cpF 497 f46 f52) f52))), (q51, .inl (g.2 0, 497, .inl (cpF 497 f46 f52))), (q1, .inr (12, [.ref q45, w5, .ref q51, w7, .ref q53, .int 1, .int 0, w11, w12, w13, w14, w15, w16, w17, w18, w19, w20, w21, w22, w23, w24, w25, w26, w27, w28, w29, w30, w31, w32, w33, w34, w35, w36, w37, w38, w39, w40]))]) hx hb hE hP hD hS 0 rfl 454 (x_in (by decide)) (by decide) dX10_setTempo_213 rfl (fun H locs hP hD hS => ?_)
  refine lv_aload_n hx hb dX10_setTempo_214 rfl (lv_at hl 3 rfl) ?_
  refine gf_RX10_9 hx hb hown hE hP 3 rfl rfl dX10_setTempo_215 ?_
  refine lv_sipush (v := 454) hx hb dX10_setTempo_218 (by decide) ?_
  refine lv_iconst (v := 2) hx hb dX10_setTempo_221 (by decide) ?_
  refine lv_iload_n hx hb dX10_setTempo_222 rfl (lv_at hl 2 rfl) ?_
  refine x_imul (v := 0) hx hb dX10_setTempo_223 (by decide) ?_
  refine x_iadd (v := 454) hx hb dX10_setTempo_224 (by decide) ?_
  refine lv_iconst (v := 1) hx hb dX10_setTempo_225 (by decide) ?_
  refine x_iadd (v := 455) hx hb dX10_setTempo_226 (by decide) ?_
  refine lv_iload_n hx hb dX10_setTempo_227 rfl (lv_at hl 5 rfl) ?_
  refine x_iast (ws' := [(q45, .inl (g.2 0, 497, .inl (upd (upd (upd (upd f46 457 100) 453 2) 454 x2) 455 x3))), (q53, .inl (g.2 0, 3976, .inl (cpF 497 (cpF 497 f46 f52) f52))), (q51, .inl (g.2 0, 497, .inl (cpF 497 f46 f52))), (q1, .inr (12, [.ref q45, w5, .ref q51, w7, .ref q53, .int 1, .int 0, w11, w12, w13, w14, w15, w16, w17, w18, w19, w20, w21, w22, w23, w24, w25, w26, w27, w28, w29, w30, w31, w32, w33, w34, w35, w36, w37, w38, w39, w40]))]) hx hb hE hP hD hS 0 rfl 455 (x_in (by decide)) (by decide) dX10_setTempo_228 rfl (fun H locs hP hD hS => ?_)
  refine lv_aload_n hx hb dX10_setTempo_229 rfl (lv_at hl 3 rfl) ?_
  refine gf_RX10_9 hx hb hown hE hP 3 rfl rfl dX10_setTempo_230 ?_
  refine lv_sipush (v := 453) hx hb dX10_setTempo_233 (by decide) ?_
  refine x_iald (v := 2) hx hb hE hP 0 rfl 453 (x_in (by decide)) (by decide) ((pk_un (by decide)).trans ((pk_un (by decide)).trans pk_us)) dX10_setTempo_236 ?_
  exact x_zret hx hb hr rfl rfl hlocks hP hD hS hAe hsz (Nat.le_of_ble_eq_true rfl) (Nat.le_of_ble_eq_true rfl) (fun _ => 0) [3] (by decide) rfl dX10_setTempo_237

set_option maxHeartbeats 4000000 in
set_option maxRecDepth 100000 in
theorem c1716_X10_setTempo (l : Launch) (g : gG) (q1 q45 q50 q51 : Nat) (x2 x3 : Int32) (w5 w7 w10 w11 w12 w13 w14 w15 w16 w17 w18 w19 w20 w21 w22 w23 w24 w25 w26 w27 w28 w29 w30 w31 w32 w33 w34 w35 w36 w37 w38 w39 w40 : Value) (f46 : Nat → Int32) (f52 : Nat → Int32) (hf47 : f46 453 = 1) (hf48 : f46 454 = 0) (h41 : (0 : Int32) ≤ x2) (h42 : x2 ≤ 30000) (h43 : (1 : Int32) ≤ x3) (h44 : x3 ≤ 1000) (h49 : (0 : Int32) < x2) (sz : Nat) : Met l yX10_setTempo [Cond.code yX10_setTempo cX10_setTempo 6 (some .int)] ({ frames := 2, cells := 0, slots := 0, locals := 41 } : Room) (va_Pc [.ref q1, .int x2, .int x3] (PX g sz [(q51, .inl (g.2 0, 3976, .inl f52)), (q50, .inl (g.2 0, 497, .inl f52)), (q45, .inl (g.2 0, 497, .inl f46)), (q1, .inr (12, [.ref q45, w5, .ref q50, w7, .ref q51, .int 0, w10, w11, w12, w13, w14, w15, w16, w17, w18, w19, w20, w21, w22, w23, w24, w25, w26, w27, w28, w29, w30, w31, w32, w33, w34, w35, w36, w37, w38, w39, w40]))])) (QI g [(q51, .inl (g.2 0, 3976, .inl f52)), (q50, .inl (g.2 0, 497, .inl f52)), (q45, .inl (g.2 0, 497, .inl f46)), (q1, .inr (12, [.ref q45, w5, .ref q50, w7, .ref q51, .int 0, w10, w11, w12, w13, w14, w15, w16, w17, w18, w19, w20, w21, w22, w23, w24, w25, w26, w27, w28, w29, w30, w31, w32, w33, w34, w35, w36, w37, w38, w39, w40]))] sz 2 (fun _ => [(q1, .inr (12, [.ref q45, w5, .ref q50, w7, .ref q51, .int 1, .int 0, w11, w12, w13, w14, w15, w16, w17, w18, w19, w20, w21, w22, w23, w24, w25, w26, w27, w28, w29, w30, w31, w32, w33, w34, w35, w36, w37, w38, w39, w40]))])) 0 0 (va_A [(q51, .inl (g.2 0, 3976, .inl f52)), (q50, .inl (g.2 0, 497, .inl f52)), (q45, .inl (g.2 0, 497, .inl f46)), (q1, .inr (12, [.ref q45, w5, .ref q50, w7, .ref q51, .int 0, w10, w11, w12, w13, w14, w15, w16, w17, w18, w19, w20, w21, w22, w23, w24, w25, w26, w27, w28, w29, w30, w31, w32, w33, w34, w35, w36, w37, w38, w39, w40]))] sz) := by
  refine ofN (by decide) (Nat.le_of_ble_eq_true rfl) rfl ?_
  intro p e s m args below meth c A ls hAe hsz hx hb hml hr hlocks hin hown hE hP hD hA hS hl
  have hown : s.vm.findClass RX10 = some m.cls := hown
  refine lv_aload_n hx hb dX10_setTempo_0 rfl (lv_at hl 0 rfl) ?_
  refine lv_iconst (v := 0) hx hb dX10_setTempo_1 (by decide) ?_
  refine pf_RX10_86 (ws' := [(q51, .inl (g.2 0, 3976, .inl f52)), (q50, .inl (g.2 0, 497, .inl f52)), (q45, .inl (g.2 0, 497, .inl f46)), (q1, .inr (12, [.ref q45, w5, .ref q50, w7, .ref q51, .int 0, .int 0, w11, w12, w13, w14, w15, w16, w17, w18, w19, w20, w21, w22, w23, w24, w25, w26, w27, w28, w29, w30, w31, w32, w33, w34, w35, w36, w37, w38, w39, w40]))]) hx hb hown hE hP hD hS 3 rfl rfl rfl (Nat.le_of_ble_eq_true rfl) dX10_setTempo_2 rfl (fun H locs hP hD hS => ?_)
  refine lv_iload_n hx hb dX10_setTempo_5 rfl (lv_at hl 1 rfl) ?_
  refine lv_iconst (v := 0) hx hb dX10_setTempo_6 (by decide) ?_
  refine lv_sipush (v := 30000) hx hb dX10_setTempo_7 (by decide) ?_
  refine g0_i (rS (rest := []) hx hb hml hown hE hP hD (c1703_X10_in l g x2 h41 h42 H.size) (kS_X10_in hE (e1431 hE) rfl rfl ⟨(Nat.le_of_ble_eq_true rfl), (Nat.le_of_ble_eq_true rfl)⟩) [] rfl (by decide) rfl hl.1 rfl (lv_room (Nat.le_of_ble_eq_true rfl)) dX10_setTempo_10 ⟨(Nat.le_of_ble_eq_true rfl), (Nat.le_of_ble_eq_true rfl)⟩) hP hD hS hA (fun u9 H locs hP hS => ?_)
  refine lv_if_eq (tgt := 27) hx hb dX10_setTempo_13 (by decide) (fun h => absurd h (by decide)) (fun _ => ?_)
  refine lv_iload_n hx hb dX10_setTempo_16 rfl (lv_at hl 2 rfl) ?_
  refine lv_iconst (v := 1) hx hb dX10_setTempo_17 (by decide) ?_
  refine lv_sipush (v := 1000) hx hb dX10_setTempo_18 (by decide) ?_
  refine g0_i (rS (rest := []) hx hb hml hown hE hP hD (c1713_X10_in l g x3 h43 h44 H.size) (kS_X10_in hE (e1431 hE) rfl rfl ⟨(Nat.le_of_ble_eq_true rfl), (Nat.le_of_ble_eq_true rfl)⟩) [] rfl (by decide) rfl hl.1 rfl (lv_room (Nat.le_of_ble_eq_true rfl)) dX10_setTempo_21 ⟨(Nat.le_of_ble_eq_true rfl), (Nat.le_of_ble_eq_true rfl)⟩) hP hD hS hA (fun u9 H locs hP hS => ?_)
  refine lv_if_ne (tgt := 33) hx hb dX10_setTempo_24 (by decide) (fun _ => ?_) (fun h => absurd h (by decide))
  refine lv_iconst (v := 0) hx hb dX10_setTempo_33 (by decide) ?_
  refine lv_istore_n (lv' := [(3, .int 0), (0, .ref q1), (1, .int x2), (2, .int x3)]) hx hb dX10_setTempo_34 rfl hl (by decide) rfl (fun ls hl => ?_)
  refine lv_iload_n hx hb dX10_setTempo_35 rfl (lv_at hl 0 rfl) ?_
  refine lv_aload_n hx hb dX10_setTempo_36 rfl (lv_at hl 1 rfl) ?_
  refine gf_RX10_9 hx hb hown hE hP 3 rfl rfl dX10_setTempo_37 ?_
  refine lv_sipush (v := 453) hx hb dX10_setTempo_40 (by decide) ?_
  refine x_iald (v := 1) hx hb hE hP 2 rfl 453 (x_in (by decide)) (by decide) hf47 dX10_setTempo_43 ?_
  refine lv_icmp_ge (tgt := 69) hx hb dX10_setTempo_44 (by decide) (fun h => absurd h (by decide)) (fun _ => ?_)
  refine lv_aload_n hx hb dX10_setTempo_47 rfl (lv_at hl 1 rfl) ?_
  refine gf_RX10_9 hx hb hown hE hP 3 rfl rfl dX10_setTempo_48 ?_
  refine lv_sipush (v := 454) hx hb dX10_setTempo_51 (by decide) ?_
  refine lv_iconst (v := 2) hx hb dX10_setTempo_54 (by decide) ?_
  refine lv_iload_n hx hb dX10_setTempo_55 rfl (lv_at hl 0 rfl) ?_
  refine x_imul (v := 0) hx hb dX10_setTempo_56 (by decide) ?_
  refine x_iadd (v := 454) hx hb dX10_setTempo_57 (by decide) ?_
  refine x_iald (v := 0) hx hb hE hP 2 rfl 454 (x_in (by decide)) (by decide) hf48 dX10_setTempo_58 ?_
  refine lv_iload_n hx hb dX10_setTempo_59 rfl (lv_at hl 2 rfl) ?_
  refine lv_icmp_ge (tgt := 69) hx hb dX10_setTempo_60 (by decide) (fun h => absurd h (i_nle h49)) (fun _ => ?_)
  refine lv_iinc (v := 1) (lv' := [(3, .int 1), (0, .ref q1), (1, .int x2), (2, .int x3)]) hx hb dX10_setTempo_63 hl (k := 0) rfl (by decide) (by decide) rfl (fun ls hl => ?_)
  refine lv_goto (tgt := 35) hx hb dX10_setTempo_66 (by decide) ?_
  refine lv_iload_n hx hb dX10_setTempo_35 rfl (lv_at hl 0 rfl) ?_
  refine lv_aload_n hx hb dX10_setTempo_36 rfl (lv_at hl 1 rfl) ?_
  refine gf_RX10_9 hx hb hown hE hP 3 rfl rfl dX10_setTempo_37 ?_
  refine lv_sipush (v := 453) hx hb dX10_setTempo_40 (by decide) ?_
  refine x_iald (v := 1) hx hb hE hP 2 rfl 453 (x_in (by decide)) (by decide) hf47 dX10_setTempo_43 ?_
  refine lv_icmp_ge (tgt := 69) hx hb dX10_setTempo_44 (by decide) (fun _ => ?_) (fun h => absurd (by decide) h)
  refine lv_iload_n hx hb dX10_setTempo_69 rfl (lv_at hl 0 rfl) ?_
  refine lv_aload_n hx hb dX10_setTempo_70 rfl (lv_at hl 1 rfl) ?_
  refine gf_RX10_9 hx hb hown hE hP 3 rfl rfl dX10_setTempo_71 ?_
  refine lv_sipush (v := 453) hx hb dX10_setTempo_74 (by decide) ?_
  refine x_iald (v := 1) hx hb hE hP 2 rfl 453 (x_in (by decide)) (by decide) hf47 dX10_setTempo_77 ?_
  refine lv_icmp_ge (tgt := 101) hx hb dX10_setTempo_78 (by decide) (fun _ => ?_) (fun h => absurd (by decide) h)
  refine lv_iconst (v := 0) hx hb dX10_setTempo_101 (by decide) ?_
  refine lv_istore (lv' := [(4, .int 0), (3, .int 1), (0, .ref q1), (1, .int x2), (2, .int x3)]) hx hb dX10_setTempo_102 hl (by decide) rfl (fun ls hl => ?_)
  refine lv_iload hx hb dX10_setTempo_104 (lv_at hl 0 rfl) ?_
  refine lv_if_ne (tgt := 128) hx hb dX10_setTempo_106 (by decide) (fun h => absurd h (by decide)) (fun _ => ?_)
  refine lv_aload_n hx hb dX10_setTempo_109 rfl (lv_at hl 2 rfl) ?_
  refine gf_RX10_9 hx hb hown hE hP 3 rfl rfl dX10_setTempo_110 ?_
  refine lv_sipush (v := 453) hx hb dX10_setTempo_113 (by decide) ?_
  refine x_iald (v := 1) hx hb hE hP 2 rfl 453 (x_in (by decide)) (by decide) hf47 dX10_setTempo_116 ?_
  refine lv_bipush (v := 10) hx hb dX10_setTempo_117 (by decide) ?_
  refine lv_icmp_ne (tgt := 128) hx hb dX10_setTempo_119 (by decide) (fun _ => ?_) (fun h => absurd h (by decide))
  refine lv_aload_n hx hb dX10_setTempo_128 rfl (lv_at hl 2 rfl) ?_
  refine g_v (wr := []) (rV (rest := []) hx hb hml hown hE hP hD 3 rfl rfl (c1714_X10_keepNow l g q1 q45 q50 q51 w5 w7 (.int 0) w11 w12 w13 w14 w15 w16 w17 w18 w19 w20 w21 w22 w23 w24 w25 w26 w27 w28 w29 w30 w31 w32 w33 w34 w35 w36 w37 w38 w39 w40 f46 f52 H.size) (kV_X10_keepNow hE (e1494 hE) rfl rfl ⟨(Nat.le_of_ble_eq_true rfl), (Nat.le_of_ble_eq_true rfl)⟩) [0, 1, 2, 3] rfl (by decide) rfl hl.1 rfl (lv_room (Nat.le_of_ble_eq_true rfl)) dX10_setTempo_129 ⟨(Nat.le_of_ble_eq_true rfl), (Nat.le_of_ble_eq_true rfl)⟩) hP hD hS hA [0, 1, 2, 3] [] rfl rfl (by decide) (by decide) (fun u3 H locs hP hD hS => ?_)
  have hP : va_P g.1 vwCl [(q45, .inl (g.2 0, 497, .inl f46)), (q51, .inl (g.2 0, 3976, .inl (cpF 497 (cpF 497 f46 f52) f52))), (q50, .inl (g.2 0, 497, .inl (cpF 497 f46 f52))), (q1, .inr (12, [.ref q45, w5, .ref q50, w7, .ref q51, .int 1, .int 0, w11, w12, w13, w14, w15, w16, w17, w18, w19, w20, w21, w22, w23, w24, w25, w26, w27, w28, w29, w30, w31, w32, w33, w34, w35, w36, w37, w38, w39, w40]))] H := hP
  have hD : va_D A [(q45, .inl (g.2 0, 497, .inl f46)), (q51, .inl (g.2 0, 3976, .inl (cpF 497 (cpF 497 f46 f52) f52))), (q50, .inl (g.2 0, 497, .inl (cpF 497 f46 f52))), (q1, .inr (12, [.ref q45, w5, .ref q50, w7, .ref q51, .int 1, .int 0, w11, w12, w13, w14, w15, w16, w17, w18, w19, w20, w21, w22, w23, w24, w25, w26, w27, w28, w29, w30, w31, w32, w33, w34, w35, w36, w37, w38, w39, w40]))] := hD
  refine lv_iload hx hb dX10_setTempo_132 (lv_at hl 0 rfl) ?_
  refine lv_if_ne (tgt := 214) hx hb dX10_setTempo_134 (by decide) (fun h => absurd h (by decide)) (fun _ => ?_)
  refine lv_iconst (v := 2) hx hb dX10_setTempo_137 (by decide) ?_
  refine lv_aload_n hx hb dX10_setTempo_138 rfl (lv_at hl 2 rfl) ?_
  refine gf_RX10_9 hx hb hown hE hP 3 rfl rfl dX10_setTempo_139 ?_
  refine lv_sipush (v := 453) hx hb dX10_setTempo_142 (by decide) ?_
  refine x_iald (v := 1) hx hb hE hP 0 rfl 453 (x_in (by decide)) (by decide) hf47 dX10_setTempo_145 ?_
  refine x_imul (v := 2) hx hb dX10_setTempo_146 (by decide) ?_
  refine lv_iconst (v := 1) hx hb dX10_setTempo_147 (by decide) ?_
  refine x_isub (v := 1) hx hb dX10_setTempo_148 (by decide) ?_
  refine lv_istore (lv' := [(5, .int 1), (4, .int 0), (3, .int 1), (0, .ref q1), (1, .int x2), (2, .int x3)]) hx hb dX10_setTempo_149 hl (by decide) rfl (fun ls hl => ?_)
  refine lv_iload hx hb dX10_setTempo_151 (lv_at hl 0 rfl) ?_
  refine lv_iconst (v := 2) hx hb dX10_setTempo_153 (by decide) ?_
  refine lv_iload_n hx hb dX10_setTempo_154 rfl (lv_at hl 2 rfl) ?_
  refine x_imul (v := 2) hx hb dX10_setTempo_155 (by decide) ?_
  refine lv_icmp_lt (tgt := 189) hx hb dX10_setTempo_156 (by decide) (fun _ => ?_) (fun h => absurd (by decide) h)
  refine lv_aload_n hx hb dX10_setTempo_189 rfl (lv_at hl 3 rfl) ?_
  refine gf_RX10_9 hx hb hown hE hP 3 rfl rfl dX10_setTempo_190 ?_
  refine lv_sipush (v := 453) hx hb dX10_setTempo_193 (by decide) ?_
  refine lv_dup2_11 hx hb dX10_setTempo_196 rfl rfl ?_
  refine x_iald (v := 1) hx hb hE hP 0 rfl 453 (x_in (by decide)) (by decide) hf47 dX10_setTempo_197 ?_
  refine lv_iconst (v := 1) hx hb dX10_setTempo_198 (by decide) ?_
  refine x_iadd (v := 2) hx hb dX10_setTempo_199 (by decide) ?_
  refine x_iast (ws' := [(q45, .inl (g.2 0, 497, .inl (upd f46 453 2))), (q51, .inl (g.2 0, 3976, .inl (cpF 497 (cpF 497 f46 f52) f52))), (q50, .inl (g.2 0, 497, .inl (cpF 497 f46 f52))), (q1, .inr (12, [.ref q45, w5, .ref q50, w7, .ref q51, .int 1, .int 0, w11, w12, w13, w14, w15, w16, w17, w18, w19, w20, w21, w22, w23, w24, w25, w26, w27, w28, w29, w30, w31, w32, w33, w34, w35, w36, w37, w38, w39, w40]))]) hx hb hE hP hD hS 0 rfl 453 (x_in (by decide)) (by decide) dX10_setTempo_200 rfl (fun H locs hP hD hS => ?_)
  refine lv_aload_n hx hb dX10_setTempo_201 rfl (lv_at hl 3 rfl) ?_
  refine gf_RX10_9 hx hb hown hE hP 3 rfl rfl dX10_setTempo_202 ?_
  refine lv_sipush (v := 454) hx hb dX10_setTempo_205 (by decide) ?_
  refine lv_iconst (v := 2) hx hb dX10_setTempo_208 (by decide) ?_
  refine lv_iload_n hx hb dX10_setTempo_209 rfl (lv_at hl 2 rfl) ?_
  refine x_imul (v := 2) hx hb dX10_setTempo_210 (by decide) ?_
  refine x_iadd (v := 456) hx hb dX10_setTempo_211 (by decide) ?_
  refine lv_iload_n hx hb dX10_setTempo_212 rfl (lv_at hl 4 rfl) ?_
  refine x_iast (ws' := [(q45, .inl (g.2 0, 497, .inl (upd (upd f46 453 2) 456 x2))), (q51, .inl (g.2 0, 3976, .inl (cpF 497 (cpF 497 f46 f52) f52))), (q50, .inl (g.2 0, 497, .inl (cpF 497 f46 f52))), (q1, .inr (12, [.ref q45, w5, .ref q50, w7, .ref q51, .int 1, .int 0, w11, w12, w13, w14, w15, w16, w17, w18, w19, w20, w21, w22, w23, w24, w25, w26, w27, w28, w29, w30, w31, w32, w33, w34, w35, w36, w37, w38, w39, w40]))]) hx hb hE hP hD hS 0 rfl 456 (x_in (by decide)) (by decide) dX10_setTempo_213 rfl (fun H locs hP hD hS => ?_)
  refine lv_aload_n hx hb dX10_setTempo_214 rfl (lv_at hl 3 rfl) ?_
  refine gf_RX10_9 hx hb hown hE hP 3 rfl rfl dX10_setTempo_215 ?_
  refine lv_sipush (v := 454) hx hb dX10_setTempo_218 (by decide) ?_
  refine lv_iconst (v := 2) hx hb dX10_setTempo_221 (by decide) ?_
  refine lv_iload_n hx hb dX10_setTempo_222 rfl (lv_at hl 2 rfl) ?_
  refine x_imul (v := 2) hx hb dX10_setTempo_223 (by decide) ?_
  refine x_iadd (v := 456) hx hb dX10_setTempo_224 (by decide) ?_
  refine lv_iconst (v := 1) hx hb dX10_setTempo_225 (by decide) ?_
  refine x_iadd (v := 457) hx hb dX10_setTempo_226 (by decide) ?_
  refine lv_iload_n hx hb dX10_setTempo_227 rfl (lv_at hl 5 rfl) ?_
  refine x_iast (ws' := [(q45, .inl (g.2 0, 497, .inl (upd (upd (upd f46 453 2) 456 x2) 457 x3))), (q51, .inl (g.2 0, 3976, .inl (cpF 497 (cpF 497 f46 f52) f52))), (q50, .inl (g.2 0, 497, .inl (cpF 497 f46 f52))), (q1, .inr (12, [.ref q45, w5, .ref q50, w7, .ref q51, .int 1, .int 0, w11, w12, w13, w14, w15, w16, w17, w18, w19, w20, w21, w22, w23, w24, w25, w26, w27, w28, w29, w30, w31, w32, w33, w34, w35, w36, w37, w38, w39, w40]))]) hx hb hE hP hD hS 0 rfl 457 (x_in (by decide)) (by decide) dX10_setTempo_228 rfl (fun H locs hP hD hS => ?_)
  refine lv_aload_n hx hb dX10_setTempo_229 rfl (lv_at hl 3 rfl) ?_
  refine gf_RX10_9 hx hb hown hE hP 3 rfl rfl dX10_setTempo_230 ?_
  refine lv_sipush (v := 453) hx hb dX10_setTempo_233 (by decide) ?_
  refine x_iald (v := 2) hx hb hE hP 0 rfl 453 (x_in (by decide)) (by decide) ((pk_un (by decide)).trans ((pk_un (by decide)).trans pk_us)) dX10_setTempo_236 ?_
  exact x_zret hx hb hr rfl rfl hlocks hP hD hS hAe hsz (Nat.le_of_ble_eq_true rfl) (Nat.le_of_ble_eq_true rfl) (fun _ => 0) [3] (by decide) rfl dX10_setTempo_237

set_option maxHeartbeats 4000000 in
set_option maxRecDepth 100000 in
theorem c1717_X7_placeAt (l : Launch) (g : gG) (q1 q7 : Nat) (x2 : Int32) (w4 w6 : Value) (f8 : Nat → Int32) (hf9 : f8 0 = 0) (h10 : (0 : Int32) = x2) (sz : Nat) : Met l yX7_placeAt [Cond.code yX7_placeAt cX7_placeAt 3 (some .int)] ({ frames := 1, cells := 0, slots := 0, locals := 21 } : Room) (va_Pc [.ref q1, .int x2] (PX g sz [(q7, .inl (g.2 0, 10, .inl f8)), (q1, .inr (9, [.ref q7, w4, .int 1, w6]))])) (QI g [(q7, .inl (g.2 0, 10, .inl f8)), (q1, .inr (9, [.ref q7, w4, .int 1, w6]))] sz 0 (fun _ => [(q7, .inl (g.2 0, 10, .inl f8)), (q1, .inr (9, [.ref q7, w4, .int 1, w6]))])) 0 0 (va_A [(q7, .inl (g.2 0, 10, .inl f8)), (q1, .inr (9, [.ref q7, w4, .int 1, w6]))] sz) := by
  refine ofN (by decide) (Nat.le_of_ble_eq_true rfl) rfl ?_
  intro p e s m args below meth c A ls hAe hsz hx hb hml hr hlocks hin hown hE hP hD hA hS hl
  have hown : s.vm.findClass RX7 = some m.cls := hown
  refine lv_iconst (v := 0) hx hb dX7_placeAt_0 (by decide) ?_
  refine lv_istore_n (lv' := [(2, .int 0), (0, .ref q1), (1, .int x2)]) hx hb dX7_placeAt_1 rfl hl (by decide) rfl (fun ls hl => ?_)
  refine lv_iload_n hx hb dX7_placeAt_2 rfl (lv_at hl 0 rfl) ?_
  refine lv_aload_n hx hb dX7_placeAt_3 rfl (lv_at hl 1 rfl) ?_
  refine gf_RX7_18 hx hb hown hE hP 1 rfl rfl dX7_placeAt_4 ?_
  refine lv_icmp_ge (tgt := 27) hx hb dX7_placeAt_7 (by decide) (fun h => absurd h (by decide)) (fun _ => ?_)
  refine lv_aload_n hx hb dX7_placeAt_10 rfl (lv_at hl 1 rfl) ?_
  refine lv_iload_n hx hb dX7_placeAt_11 rfl (lv_at hl 0 rfl) ?_
  refine g_i (wr := []) (rV (rest := []) hx hb hml hown hE hP hD 1 rfl rfl (c1707_X7_placeTick l g q1 q7 w4 (.int 1) w6 f8 (hf9) s.heap.size) (kV_X7_placeTick hE (e409 hE) rfl rfl ⟨(Nat.le_of_ble_eq_true rfl), (Nat.le_of_ble_eq_true rfl)⟩) [0, 1] rfl (by decide) rfl hl.1 rfl (lv_room (Nat.le_of_ble_eq_true rfl)) dX7_placeAt_12 ⟨(Nat.le_of_ble_eq_true rfl), (Nat.le_of_ble_eq_true rfl)⟩) hP hD hS hA [0, 1] [] rfl rfl (by decide) (by decide) (fun u1 H locs hP hD hS => ?_)
  have hP : va_P g.1 vwCl [(q7, .inl (g.2 0, 10, .inl f8)), (q1, .inr (9, [.ref q7, w4, .int 1, w6]))] H := hP
  have hD : va_D A [(q7, .inl (g.2 0, 10, .inl f8)), (q1, .inr (9, [.ref q7, w4, .int 1, w6]))] := hD
  refine lv_iload_n hx hb dX7_placeAt_15 rfl (lv_at hl 2 rfl) ?_
  refine lv_icmp_ne (tgt := 21) hx hb dX7_placeAt_16 (by decide) (fun h => absurd h (i_nne h10)) (fun _ => ?_)
  refine lv_iload_n hx hb dX7_placeAt_19 rfl (lv_at hl 0 rfl) ?_
  exact x_zret hx hb hr rfl rfl hlocks hP hD hS hAe hsz (Nat.le_of_ble_eq_true rfl) (Nat.le_of_ble_eq_true rfl) (fun _ => 0) [0, 1] (by decide) rfl dX7_placeAt_20

set_option maxHeartbeats 4000000 in
set_option maxRecDepth 100000 in
theorem c1718_X7_putPace (l : Launch) (g : gG) (q1 q7 : Nat) (x2 : Int32) (w3 w5 w6 : Value) (f8 : Nat → Int32) (sz : Nat) : Met l yX7_putPace [Cond.code yX7_putPace cX7_putPace 3 none] ({ frames := 0, cells := 0, slots := 0, locals := 0 } : Room) (va_Pc [.ref q1, .int 0, .int x2] (PX g sz [(q7, .inl (g.2 0, 10, .inl f8)), (q1, .inr (9, [w3, .ref q7, w5, w6]))])) (QV g [(q7, .inl (g.2 0, 10, .inl f8)), (q1, .inr (9, [w3, .ref q7, w5, w6]))] sz (fun _ => [(q7, .inl (g.2 0, 10, .inl (upd f8 0 x2))), (q1, .inr (9, [w3, .ref q7, w5, w6]))])) 0 0 (va_A [(q7, .inl (g.2 0, 10, .inl f8)), (q1, .inr (9, [w3, .ref q7, w5, w6]))] sz) := by
  refine ofN (by decide) (Nat.le_of_ble_eq_true rfl) rfl ?_
  intro p e s m args below meth c A ls hAe hsz hx hb hml hr hlocks hin hown hE hP hD hA hS hl
  have hown : s.vm.findClass RX7 = some m.cls := hown
  refine lv_iload_n hx hb dX7_putPace_0 rfl (lv_at hl 1 rfl) ?_
  refine lv_if_lt (tgt := 20) hx hb dX7_putPace_1 (by decide) (fun h => absurd h (by decide)) (fun _ => ?_)
  refine lv_iload_n hx hb dX7_putPace_4 rfl (lv_at hl 1 rfl) ?_
  refine lv_aload_n hx hb dX7_putPace_5 rfl (lv_at hl 0 rfl) ?_
  refine gf_RX7_15 hx hb hown hE hP 1 rfl rfl dX7_putPace_6 ?_
  refine x_aleni (v := 10) hx hb hE hP 0 rfl rfl dX7_putPace_9 ?_
  refine lv_icmp_ge (tgt := 20) hx hb dX7_putPace_10 (by decide) (fun h => absurd h (by decide)) (fun _ => ?_)
  refine lv_aload_n hx hb dX7_putPace_13 rfl (lv_at hl 0 rfl) ?_
  refine gf_RX7_15 hx hb hown hE hP 1 rfl rfl dX7_putPace_14 ?_
  refine lv_iload_n hx hb dX7_putPace_17 rfl (lv_at hl 1 rfl) ?_
  refine lv_iload_n hx hb dX7_putPace_18 rfl (lv_at hl 2 rfl) ?_
  refine x_iast (ws' := [(q7, .inl (g.2 0, 10, .inl (upd f8 0 x2))), (q1, .inr (9, [w3, .ref q7, w5, w6]))]) hx hb hE hP hD hS 0 rfl 0 (x_in (by decide)) (by decide) dX7_putPace_19 rfl (fun H locs hP hD hS => ?_)
  exact x_vret hx hb hr hlocks hP hD hS hAe hsz (Nat.le_of_ble_eq_true rfl) (Nat.le_of_ble_eq_true rfl) (fun _ => 0) [0, 1] (by decide) rfl dX7_putPace_20

set_option maxHeartbeats 4000000 in
set_option maxRecDepth 100000 in
theorem c1719_X9_setTempo (l : Launch) (g : gG) (q1 q19 q23 q26 q28 q36 q37 q38 q39 q47 q48 q49 q50 q53 q54 q57 q58 q65 q66 q71 q72 : Nat) (x2 x3 : Int32) (w9 w10 w11 w12 w13 w14 w15 w16 w17 w18 w33 w34 w35 w69 w70 : Value) (f24 : Nat → Option Nat) (f59 : Nat → Int32) (f60 : Nat → Int32) (f73 : Nat → Int32) (f74 : Nat → Int32) (hf25 : f24 1 = some q26) (hf27 : f24 0 = some q28) (hf75 : f59 0 = 0) (h4 : (0 : Int32) ≤ x2) (h5 : x2 ≤ 30000) (h6 : (1 : Int32) ≤ x3) (h7 : x3 ≤ 1000) (h76 : (0 : Int32) = x2) (sz : Nat) : Met l yX9_setTempo [Cond.code yX9_setTempo cX9_setTempo 5 (some .int)] ({ frames := 5, cells := 0, slots := 0, locals := 148 } : Room) (va_Pc [.ref q1, .int x2, .int x3] (PX g sz [(q39, .inl (g.2 0, 20, .inl f74)), (q50, .inl (g.2 0, 20, .inl f74)), (q38, .inl (g.2 0, 60, .inl f59)), (q49, .inl (g.2 0, 60, .inl f59)), (q72, .inl (g.2 0, 10, .inl f73)), (q66, .inl (g.2 0, 10, .inl f73)), (q71, .inl (g.2 0, 10, .inl f59)), (q65, .inl (g.2 0, 10, .inl f59)), (q37, .inr (9, [.ref q71, .ref q72, w69, w70])), (q48, .inr (9, [.ref q65, .ref q66, .int 1, .int 0])), (q58, .inl (g.2 0, 40, .inl f60)), (q54, .inl (g.2 0, 40, .inl f60)), (q57, .inl (g.2 0, 384, .inl f59)), (q53, .inl (g.2 0, 384, .inl f59)), (q36, .inr (5, [.ref q57, .ref q58])), (q47, .inr (5, [.ref q53, .ref q54])), (q28, .inr (8, [.ref q47, .ref q48, .ref q49, .ref q50, .int 0, .int 4, .int 0])), (q26, .inr (8, [.ref q36, .ref q37, .ref q38, .ref q39, w33, w34, w35])), (q23, .inl (g.2 3, 10, .inr (.inr (.inr (.inr f24))))), (q19, .inr (10, [.ref q23, .int 0, .int 0])), (q1, .inr (11, [.ref q19, w9, w10, w11, w12, w13, w14, w15, w16, w17, w18]))])) (QI g [(q39, .inl (g.2 0, 20, .inl f74)), (q50, .inl (g.2 0, 20, .inl f74)), (q38, .inl (g.2 0, 60, .inl f59)), (q49, .inl (g.2 0, 60, .inl f59)), (q72, .inl (g.2 0, 10, .inl f73)), (q66, .inl (g.2 0, 10, .inl f73)), (q71, .inl (g.2 0, 10, .inl f59)), (q65, .inl (g.2 0, 10, .inl f59)), (q37, .inr (9, [.ref q71, .ref q72, w69, w70])), (q48, .inr (9, [.ref q65, .ref q66, .int 1, .int 0])), (q58, .inl (g.2 0, 40, .inl f60)), (q54, .inl (g.2 0, 40, .inl f60)), (q57, .inl (g.2 0, 384, .inl f59)), (q53, .inl (g.2 0, 384, .inl f59)), (q36, .inr (5, [.ref q57, .ref q58])), (q47, .inr (5, [.ref q53, .ref q54])), (q28, .inr (8, [.ref q47, .ref q48, .ref q49, .ref q50, .int 0, .int 4, .int 0])), (q26, .inr (8, [.ref q36, .ref q37, .ref q38, .ref q39, w33, w34, w35])), (q23, .inl (g.2 3, 10, .inr (.inr (.inr (.inr f24))))), (q19, .inr (10, [.ref q23, .int 0, .int 0])), (q1, .inr (11, [.ref q19, w9, w10, w11, w12, w13, w14, w15, w16, w17, w18]))] sz 1 (fun _ => [(q23, .inl (g.2 3, 10, .inr (.inr (.inr (.inr f24))))), (q28, .inr (8, [.ref q47, .ref q48, .ref q49, .ref q50, .int 0, .int 4, .int 0])), (q26, .inr (8, [.ref q36, .ref q37, .ref q38, .ref q39, .int 0, .int 4, .int 0])), (q36, .inr (5, [.ref q57, .ref q58])), (q47, .inr (5, [.ref q53, .ref q54])), (q57, .inl (g.2 0, 384, .inl f59)), (q53, .inl (g.2 0, 384, .inl f59)), (q58, .inl (g.2 0, 40, .inl f60)), (q54, .inl (g.2 0, 40, .inl f60)), (q48, .inr (9, [.ref q65, .ref q66, .int 1, .int 0])), (q65, .inl (g.2 0, 10, .inl f59)), (q66, .inl (g.2 0, 10, .inl f73)), (q38, .inl (g.2 0, 60, .inl f59)), (q49, .inl (g.2 0, 60, .inl f59)), (q39, .inl (g.2 0, 20, .inl f74)), (q50, .inl (g.2 0, 20, .inl f74)), (q71, .inl (g.2 0, 10, .inl f59)), (q72, .inl (g.2 0, 10, .inl (upd f73 0 x3))), (q19, .inr (10, [.ref q23, .int 1, .int 1])), (q1, .inr (11, [.ref q19, w9, w10, w11, w12, w13, w14, w15, .int 0, .int 0, w18])), (q37, .inr (9, [.ref q71, .ref q72, .int 1, .int 0]))])) 0 0 (va_A [(q39, .inl (g.2 0, 20, .inl f74)), (q50, .inl (g.2 0, 20, .inl f74)), (q38, .inl (g.2 0, 60, .inl f59)), (q49, .inl (g.2 0, 60, .inl f59)), (q72, .inl (g.2 0, 10, .inl f73)), (q66, .inl (g.2 0, 10, .inl f73)), (q71, .inl (g.2 0, 10, .inl f59)), (q65, .inl (g.2 0, 10, .inl f59)), (q37, .inr (9, [.ref q71, .ref q72, w69, w70])), (q48, .inr (9, [.ref q65, .ref q66, .int 1, .int 0])), (q58, .inl (g.2 0, 40, .inl f60)), (q54, .inl (g.2 0, 40, .inl f60)), (q57, .inl (g.2 0, 384, .inl f59)), (q53, .inl (g.2 0, 384, .inl f59)), (q36, .inr (5, [.ref q57, .ref q58])), (q47, .inr (5, [.ref q53, .ref q54])), (q28, .inr (8, [.ref q47, .ref q48, .ref q49, .ref q50, .int 0, .int 4, .int 0])), (q26, .inr (8, [.ref q36, .ref q37, .ref q38, .ref q39, w33, w34, w35])), (q23, .inl (g.2 3, 10, .inr (.inr (.inr (.inr f24))))), (q19, .inr (10, [.ref q23, .int 0, .int 0])), (q1, .inr (11, [.ref q19, w9, w10, w11, w12, w13, w14, w15, w16, w17, w18]))] sz) := by
  refine ofN (by decide) (Nat.le_of_ble_eq_true rfl) rfl ?_
  intro p e s m args below meth c A ls hAe hsz hx hb hml hr hlocks hin hown hE hP hD hA hS hl
  have hown : s.vm.findClass RX9 = some m.cls := hown
  refine lv_iload_n hx hb dX9_setTempo_0 rfl (lv_at hl 1 rfl) ?_
  refine lv_iconst (v := 0) hx hb dX9_setTempo_1 (by decide) ?_
  refine lv_sipush (v := 30000) hx hb dX9_setTempo_2 (by decide) ?_
  refine g0_v (rS (rest := []) hx hb hml hown hE hP hD (c1699_X9_requireRange l g x2 h4 h5 s.heap.size) (kS_X9_requireRange hE (e636 hE) rfl rfl ⟨(Nat.le_of_ble_eq_true rfl), (Nat.le_of_ble_eq_true rfl)⟩) [] rfl (by decide) rfl hl.1 rfl (lv_room (Nat.le_of_ble_eq_true rfl)) dX9_setTempo_5 ⟨(Nat.le_of_ble_eq_true rfl), (Nat.le_of_ble_eq_true rfl)⟩) hP hD hS hA (fun u9 H locs hP hS => ?_)
  refine lv_iload_n hx hb dX9_setTempo_8 rfl (lv_at hl 2 rfl) ?_
  refine lv_iconst (v := 1) hx hb dX9_setTempo_9 (by decide) ?_
  refine lv_sipush (v := 1000) hx hb dX9_setTempo_10 (by decide) ?_
  refine g0_v (rS (rest := []) hx hb hml hown hE hP hD (c1706_X9_requireRange l g x3 h6 h7 H.size) (kS_X9_requireRange hE (e636 hE) rfl rfl ⟨(Nat.le_of_ble_eq_true rfl), (Nat.le_of_ble_eq_true rfl)⟩) [] rfl (by decide) rfl hl.1 rfl (lv_room (Nat.le_of_ble_eq_true rfl)) dX9_setTempo_13 ⟨(Nat.le_of_ble_eq_true rfl), (Nat.le_of_ble_eq_true rfl)⟩) hP hD hS hA (fun u9 H locs hP hS => ?_)
  refine lv_aload_n hx hb dX9_setTempo_16 rfl (lv_at hl 0 rfl) ?_
  refine gf_RX9_12 hx hb hown hE hP 20 rfl rfl dX9_setTempo_17 ?_
  refine g_r (wr := [(q1, .inr (11, [.ref q19, w9, w10, w11, w12, w13, w14, w15, w16, w17, w18]))]) (rV (rest := []) hx hb hml hown hE hP hD 19 rfl rfl (c127_X8_draft l g q19 q23 q26 q28 q36 q47 q53 q57 q54 q58 q37 q48 q65 q71 q66 q72 q49 q38 q50 q39 (.int 0) w33 w34 w35 w69 w70 f24 f59 f60 f73 f74 (hf25) (hf27) H.size) (kV_X8_draft hE (e659 hE) rfl rfl ⟨(Nat.le_of_ble_eq_true rfl), (Nat.le_of_ble_eq_true rfl)⟩) [0, 1, 2, 3, 4, 5, 6, 7, 8, 9, 10, 11, 12, 13, 14, 15, 16, 17, 18, 19] rfl (by decide) rfl hl.1 rfl (lv_room (Nat.le_of_ble_eq_true rfl)) dX9_setTempo_20 ⟨(Nat.le_of_ble_eq_true rfl), (Nat.le_of_ble_eq_true rfl)⟩) hP hD hS hA [0, 1, 2, 3, 4, 5, 6, 7, 8, 9, 10, 11, 12, 13, 14, 15, 16, 17, 18, 19] [20] rfl rfl (by decide) (by decide) (fun u3 H locs hP hD hS => ?_)
  have hP : va_P g.1 vwCl [(q1, .inr (11, [.ref q19, w9, w10, w11, w12, w13, w14, w15, w16, w17, w18])), (q23, .inl (g.2 3, 10, .inr (.inr (.inr (.inr f24))))), (q19, .inr (10, [.ref q23, .int 0, .int 0])), (q28, .inr (8, [.ref q47, .ref q48, .ref q49, .ref q50, .int 0, .int 4, .int 0])), (q26, .inr (8, [.ref q36, .ref q37, .ref q38, .ref q39, .int 0, .int 4, .int 0])), (q36, .inr (5, [.ref q57, .ref q58])), (q47, .inr (5, [.ref q53, .ref q54])), (q57, .inl (g.2 0, 384, .inl f59)), (q53, .inl (g.2 0, 384, .inl f59)), (q58, .inl (g.2 0, 40, .inl f60)), (q54, .inl (g.2 0, 40, .inl f60)), (q37, .inr (9, [.ref q71, .ref q72, .int 1, .int 0])), (q48, .inr (9, [.ref q65, .ref q66, .int 1, .int 0])), (q71, .inl (g.2 0, 10, .inl f59)), (q65, .inl (g.2 0, 10, .inl f59)), (q72, .inl (g.2 0, 10, .inl f73)), (q66, .inl (g.2 0, 10, .inl f73)), (q38, .inl (g.2 0, 60, .inl f59)), (q49, .inl (g.2 0, 60, .inl f59)), (q39, .inl (g.2 0, 20, .inl f74)), (q50, .inl (g.2 0, 20, .inl f74))] H := hP
  have hD : va_D A [(q1, .inr (11, [.ref q19, w9, w10, w11, w12, w13, w14, w15, w16, w17, w18])), (q23, .inl (g.2 3, 10, .inr (.inr (.inr (.inr f24))))), (q19, .inr (10, [.ref q23, .int 0, .int 0])), (q28, .inr (8, [.ref q47, .ref q48, .ref q49, .ref q50, .int 0, .int 4, .int 0])), (q26, .inr (8, [.ref q36, .ref q37, .ref q38, .ref q39, .int 0, .int 4, .int 0])), (q36, .inr (5, [.ref q57, .ref q58])), (q47, .inr (5, [.ref q53, .ref q54])), (q57, .inl (g.2 0, 384, .inl f59)), (q53, .inl (g.2 0, 384, .inl f59)), (q58, .inl (g.2 0, 40, .inl f60)), (q54, .inl (g.2 0, 40, .inl f60)), (q37, .inr (9, [.ref q71, .ref q72, .int 1, .int 0])), (q48, .inr (9, [.ref q65, .ref q66, .int 1, .int 0])), (q71, .inl (g.2 0, 10, .inl f59)), (q65, .inl (g.2 0, 10, .inl f59)), (q72, .inl (g.2 0, 10, .inl f73)), (q66, .inl (g.2 0, 10, .inl f73)), (q38, .inl (g.2 0, 60, .inl f59)), (q49, .inl (g.2 0, 60, .inl f59)), (q39, .inl (g.2 0, 20, .inl f74)), (q50, .inl (g.2 0, 20, .inl f74))] := hD
  refine lv_astore_n (lv' := [(3, .ref q26), (0, .ref q1), (1, .int x2), (2, .int x3)]) hx hb dX9_setTempo_23 rfl hl (by decide) rfl (fun ls hl => ?_)
  refine lv_aload_n hx hb dX9_setTempo_24 rfl (lv_at hl 0 rfl) ?_
  refine gf_RX9_193 hx hb hown hE hP 4 rfl rfl dX9_setTempo_25 ?_
  refine lv_iload_n hx hb dX9_setTempo_28 rfl (lv_at hl 2 rfl) ?_
  refine g_i (wr := [(q1, .inr (11, [.ref q19, w9, w10, w11, w12, w13, w14, w15, w16, w17, w18])), (q23, .inl (g.2 3, 10, .inr (.inr (.inr (.inr f24))))), (q19, .inr (10, [.ref q23, .int 0, .int 0])), (q28, .inr (8, [.ref q47, .ref q48, .ref q49, .ref q50, .int 0, .int 4, .int 0])), (q26, .inr (8, [.ref q36, .ref q37, .ref q38, .ref q39, .int 0, .int 4, .int 0])), (q36, .inr (5, [.ref q57, .ref q58])), (q47, .inr (5, [.ref q53, .ref q54])), (q57, .inl (g.2 0, 384, .inl f59)), (q53, .inl (g.2 0, 384, .inl f59)), (q58, .inl (g.2 0, 40, .inl f60)), (q54, .inl (g.2 0, 40, .inl f60)), (q48, .inr (9, [.ref q65, .ref q66, .int 1, .int 0])), (q65, .inl (g.2 0, 10, .inl f59)), (q72, .inl (g.2 0, 10, .inl f73)), (q66, .inl (g.2 0, 10, .inl f73)), (q38, .inl (g.2 0, 60, .inl f59)), (q49, .inl (g.2 0, 60, .inl f59)), (q39, .inl (g.2 0, 20, .inl f74)), (q50, .inl (g.2 0, 20, .inl f74))]) (rV (rest := []) hx hb hml hown hE hP hD 11 rfl rfl (c1717_X7_placeAt l g q37 q71 x2 (.ref q72) (.int 0) f59 (hf75) h76 H.size) (kV_X7_placeAt hE (e908 hE) rfl rfl ⟨(Nat.le_of_ble_eq_true rfl), (Nat.le_of_ble_eq_true rfl)⟩) [13, 11] rfl (by decide) rfl hl.1 rfl (lv_room (Nat.le_of_ble_eq_true rfl)) dX9_setTempo_29 ⟨(Nat.le_of_ble_eq_true rfl), (Nat.le_of_ble_eq_true rfl)⟩) hP hD hS hA [13, 11] [0, 1, 2, 3, 4, 5, 6, 7, 8, 9, 10, 12, 14, 15, 16, 17, 18, 19, 20] rfl rfl (by decide) (by decide) (fun u4 H locs hP hD hS => ?_)
  have hP : va_P g.1 vwCl [(q1, .inr (11, [.ref q19, w9, w10, w11, w12, w13, w14, w15, w16, w17, w18])), (q23, .inl (g.2 3, 10, .inr (.inr (.inr (.inr f24))))), (q19, .inr (10, [.ref q23, .int 0, .int 0])), (q28, .inr (8, [.ref q47, .ref q48, .ref q49, .ref q50, .int 0, .int 4, .int 0])), (q26, .inr (8, [.ref q36, .ref q37, .ref q38, .ref q39, .int 0, .int 4, .int 0])), (q36, .inr (5, [.ref q57, .ref q58])), (q47, .inr (5, [.ref q53, .ref q54])), (q57, .inl (g.2 0, 384, .inl f59)), (q53, .inl (g.2 0, 384, .inl f59)), (q58, .inl (g.2 0, 40, .inl f60)), (q54, .inl (g.2 0, 40, .inl f60)), (q48, .inr (9, [.ref q65, .ref q66, .int 1, .int 0])), (q65, .inl (g.2 0, 10, .inl f59)), (q72, .inl (g.2 0, 10, .inl f73)), (q66, .inl (g.2 0, 10, .inl f73)), (q38, .inl (g.2 0, 60, .inl f59)), (q49, .inl (g.2 0, 60, .inl f59)), (q39, .inl (g.2 0, 20, .inl f74)), (q50, .inl (g.2 0, 20, .inl f74)), (q71, .inl (g.2 0, 10, .inl f59)), (q37, .inr (9, [.ref q71, .ref q72, .int 1, .int 0]))] H := hP
  have hD : va_D A [(q1, .inr (11, [.ref q19, w9, w10, w11, w12, w13, w14, w15, w16, w17, w18])), (q23, .inl (g.2 3, 10, .inr (.inr (.inr (.inr f24))))), (q19, .inr (10, [.ref q23, .int 0, .int 0])), (q28, .inr (8, [.ref q47, .ref q48, .ref q49, .ref q50, .int 0, .int 4, .int 0])), (q26, .inr (8, [.ref q36, .ref q37, .ref q38, .ref q39, .int 0, .int 4, .int 0])), (q36, .inr (5, [.ref q57, .ref q58])), (q47, .inr (5, [.ref q53, .ref q54])), (q57, .inl (g.2 0, 384, .inl f59)), (q53, .inl (g.2 0, 384, .inl f59)), (q58, .inl (g.2 0, 40, .inl f60)), (q54, .inl (g.2 0, 40, .inl f60)), (q48, .inr (9, [.ref q65, .ref q66, .int 1, .int 0])), (q65, .inl (g.2 0, 10, .inl f59)), (q72, .inl (g.2 0, 10, .inl f73)), (q66, .inl (g.2 0, 10, .inl f73)), (q38, .inl (g.2 0, 60, .inl f59)), (q49, .inl (g.2 0, 60, .inl f59)), (q39, .inl (g.2 0, 20, .inl f74)), (q50, .inl (g.2 0, 20, .inl f74)), (q71, .inl (g.2 0, 10, .inl f59)), (q37, .inr (9, [.ref q71, .ref q72, .int 1, .int 0]))] := hD
  refine lv_istore (lv' := [(4, .int 0), (3, .ref q26), (0, .ref q1), (1, .int x2), (2, .int x3)]) hx hb dX9_setTempo_32 hl (by decide) rfl (fun ls hl => ?_)
  refine lv_iload hx hb dX9_setTempo_34 (lv_at hl 0 rfl) ?_
  refine lv_iconst (v := (-1)) hx hb dX9_setTempo_36 (by decide) ?_
  refine lv_icmp_eq (tgt := 53) hx hb dX9_setTempo_37 (by decide) (fun h => absurd h (by decide)) (fun _ => ?_)
  refine lv_aload_n hx hb dX9_setTempo_40 rfl (lv_at hl 1 rfl) ?_
  refine gf_RX9_193 hx hb hown hE hP 4 rfl rfl dX9_setTempo_41 ?_
  refine lv_iload hx hb dX9_setTempo_44 (lv_at hl 0 rfl) ?_
  refine lv_iload_n hx hb dX9_setTempo_46 rfl (lv_at hl 4 rfl) ?_
  refine g_v (wr := [(q1, .inr (11, [.ref q19, w9, w10, w11, w12, w13, w14, w15, w16, w17, w18])), (q23, .inl (g.2 3, 10, .inr (.inr (.inr (.inr f24))))), (q19, .inr (10, [.ref q23, .int 0, .int 0])), (q28, .inr (8, [.ref q47, .ref q48, .ref q49, .ref q50, .int 0, .int 4, .int 0])), (q26, .inr (8, [.ref q36, .ref q37, .ref q38, .ref q39, .int 0, .int 4, .int 0])), (q36, .inr (5, [.ref q57, .ref q58])), (q47, .inr (5, [.ref q53, .ref q54])), (q57, .inl (g.2 0, 384, .inl f59)), (q53, .inl (g.2 0, 384, .inl f59)), (q58, .inl (g.2 0, 40, .inl f60)), (q54, .inl (g.2 0, 40, .inl f60)), (q48, .inr (9, [.ref q65, .ref q66, .int 1, .int 0])), (q65, .inl (g.2 0, 10, .inl f59)), (q66, .inl (g.2 0, 10, .inl f73)), (q38, .inl (g.2 0, 60, .inl f59)), (q49, .inl (g.2 0, 60, .inl f59)), (q39, .inl (g.2 0, 20, .inl f74)), (q50, .inl (g.2 0, 20, .inl f74)), (q71, .inl (g.2 0, 10, .inl f59))]) (rV (rest := []) hx hb hml hown hE hP hD 20 rfl rfl (c1718_X7_putPace l g q37 q72 x3 (.ref q71) (.int 1) (.int 0) f73 H.size) (kV_X7_putPace hE (e912 hE) rfl rfl ⟨(Nat.le_of_ble_eq_true rfl), (Nat.le_of_ble_eq_true rfl)⟩) [13, 20] rfl (by decide) rfl hl.1 rfl (lv_room (Nat.le_of_ble_eq_true rfl)) dX9_setTempo_47 ⟨(Nat.le_of_ble_eq_true rfl), (Nat.le_of_ble_eq_true rfl)⟩) hP hD hS hA [13, 20] [0, 1, 2, 3, 4, 5, 6, 7, 8, 9, 10, 11, 12, 14, 15, 16, 17, 18, 19] rfl rfl (by decide) (by decide) (fun u5 H locs hP hD hS => ?_)
  have hP : va_P g.1 vwCl [(q1, .inr (11, [.ref q19, w9, w10, w11, w12, w13, w14, w15, w16, w17, w18])), (q23, .inl (g.2 3, 10, .inr (.inr (.inr (.inr f24))))), (q19, .inr (10, [.ref q23, .int 0, .int 0])), (q28, .inr (8, [.ref q47, .ref q48, .ref q49, .ref q50, .int 0, .int 4, .int 0])), (q26, .inr (8, [.ref q36, .ref q37, .ref q38, .ref q39, .int 0, .int 4, .int 0])), (q36, .inr (5, [.ref q57, .ref q58])), (q47, .inr (5, [.ref q53, .ref q54])), (q57, .inl (g.2 0, 384, .inl f59)), (q53, .inl (g.2 0, 384, .inl f59)), (q58, .inl (g.2 0, 40, .inl f60)), (q54, .inl (g.2 0, 40, .inl f60)), (q48, .inr (9, [.ref q65, .ref q66, .int 1, .int 0])), (q65, .inl (g.2 0, 10, .inl f59)), (q66, .inl (g.2 0, 10, .inl f73)), (q38, .inl (g.2 0, 60, .inl f59)), (q49, .inl (g.2 0, 60, .inl f59)), (q39, .inl (g.2 0, 20, .inl f74)), (q50, .inl (g.2 0, 20, .inl f74)), (q71, .inl (g.2 0, 10, .inl f59)), (q72, .inl (g.2 0, 10, .inl (upd f73 0 x3))), (q37, .inr (9, [.ref q71, .ref q72, .int 1, .int 0]))] H := hP
  have hD : va_D A [(q1, .inr (11, [.ref q19, w9, w10, w11, w12, w13, w14, w15, w16, w17, w18])), (q23, .inl (g.2 3, 10, .inr (.inr (.inr (.inr f24))))), (q19, .inr (10, [.ref q23, .int 0, .int 0])), (q28, .inr (8, [.ref q47, .ref q48, .ref q49, .ref q50, .int 0, .int 4, .int 0])), (q26, .inr (8, [.ref q36, .ref q37, .ref q38, .ref q39, .int 0, .int 4, .int 0])), (q36, .inr (5, [.ref q57, .ref q58])), (q47, .inr (5, [.ref q53, .ref q54])), (q57, .inl (g.2 0, 384, .inl f59)), (q53, .inl (g.2 0, 384, .inl f59)), (q58, .inl (g.2 0, 40, .inl f60)), (q54, .inl (g.2 0, 40, .inl f60)), (q48, .inr (9, [.ref q65, .ref q66, .int 1, .int 0])), (q65, .inl (g.2 0, 10, .inl f59)), (q66, .inl (g.2 0, 10, .inl f73)), (q38, .inl (g.2 0, 60, .inl f59)), (q49, .inl (g.2 0, 60, .inl f59)), (q39, .inl (g.2 0, 20, .inl f74)), (q50, .inl (g.2 0, 20, .inl f74)), (q71, .inl (g.2 0, 10, .inl f59)), (q72, .inl (g.2 0, 10, .inl (upd f73 0 x3))), (q37, .inr (9, [.ref q71, .ref q72, .int 1, .int 0]))] := hD
  refine lv_goto (tgt := 87) hx hb dX9_setTempo_50 (by decide) ?_
  refine lv_aload_n hx hb dX9_setTempo_87 rfl (lv_at hl 2 rfl) ?_
  refine g_v (wr := [(q23, .inl (g.2 3, 10, .inr (.inr (.inr (.inr f24))))), (q28, .inr (8, [.ref q47, .ref q48, .ref q49, .ref q50, .int 0, .int 4, .int 0])), (q26, .inr (8, [.ref q36, .ref q37, .ref q38, .ref q39, .int 0, .int 4, .int 0])), (q36, .inr (5, [.ref q57, .ref q58])), (q47, .inr (5, [.ref q53, .ref q54])), (q57, .inl (g.2 0, 384, .inl f59)), (q53, .inl (g.2 0, 384, .inl f59)), (q58, .inl (g.2 0, 40, .inl f60)), (q54, .inl (g.2 0, 40, .inl f60)), (q48, .inr (9, [.ref q65, .ref q66, .int 1, .int 0])), (q65, .inl (g.2 0, 10, .inl f59)), (q66, .inl (g.2 0, 10, .inl f73)), (q38, .inl (g.2 0, 60, .inl f59)), (q49, .inl (g.2 0, 60, .inl f59)), (q39, .inl (g.2 0, 20, .inl f74)), (q50, .inl (g.2 0, 20, .inl f74)), (q71, .inl (g.2 0, 10, .inl f59)), (q72, .inl (g.2 0, 10, .inl (upd f73 0 x3))), (q37, .inr (9, [.ref q71, .ref q72, .int 1, .int 0]))]) (rV (rest := []) hx hb hml hown hE hP hD 0 rfl rfl (c191_X9_accept l g q1 q19 w9 w10 w11 w12 w13 w14 w15 w16 w17 w18 (.ref q23) H.size) (kV_X9_accept hE (e718 hE) rfl rfl ⟨(Nat.le_of_ble_eq_true rfl), (Nat.le_of_ble_eq_true rfl)⟩) [2, 0] rfl (by decide) rfl hl.1 rfl (lv_room (Nat.le_of_ble_eq_true rfl)) dX9_setTempo_88 ⟨(Nat.le_of_ble_eq_true rfl), (Nat.le_of_ble_eq_true rfl)⟩) hP hD hS hA [2, 0] [1, 3, 4, 5, 6, 7, 8, 9, 10, 11, 12, 13, 14, 15, 16, 17, 18, 19, 20] rfl rfl (by decide) (by decide) (fun u6 H locs hP hD hS => ?_)
  have hP : va_P g.1 vwCl [(q23, .inl (g.2 3, 10, .inr (.inr (.inr (.inr f24))))), (q28, .inr (8, [.ref q47, .ref q48, .ref q49, .ref q50, .int 0, .int 4, .int 0])), (q26, .inr (8, [.ref q36, .ref q37, .ref q38, .ref q39, .int 0, .int 4, .int 0])), (q36, .inr (5, [.ref q57, .ref q58])), (q47, .inr (5, [.ref q53, .ref q54])), (q57, .inl (g.2 0, 384, .inl f59)), (q53, .inl (g.2 0, 384, .inl f59)), (q58, .inl (g.2 0, 40, .inl f60)), (q54, .inl (g.2 0, 40, .inl f60)), (q48, .inr (9, [.ref q65, .ref q66, .int 1, .int 0])), (q65, .inl (g.2 0, 10, .inl f59)), (q66, .inl (g.2 0, 10, .inl f73)), (q38, .inl (g.2 0, 60, .inl f59)), (q49, .inl (g.2 0, 60, .inl f59)), (q39, .inl (g.2 0, 20, .inl f74)), (q50, .inl (g.2 0, 20, .inl f74)), (q71, .inl (g.2 0, 10, .inl f59)), (q72, .inl (g.2 0, 10, .inl (upd f73 0 x3))), (q37, .inr (9, [.ref q71, .ref q72, .int 1, .int 0])), (q19, .inr (10, [.ref q23, .int 1, .int 1])), (q1, .inr (11, [.ref q19, w9, w10, w11, w12, w13, w14, w15, .int 0, .int 0, w18]))] H := hP
  have hD : va_D A [(q23, .inl (g.2 3, 10, .inr (.inr (.inr (.inr f24))))), (q28, .inr (8, [.ref q47, .ref q48, .ref q49, .ref q50, .int 0, .int 4, .int 0])), (q26, .inr (8, [.ref q36, .ref q37, .ref q38, .ref q39, .int 0, .int 4, .int 0])), (q36, .inr (5, [.ref q57, .ref q58])), (q47, .inr (5, [.ref q53, .ref q54])), (q57, .inl (g.2 0, 384, .inl f59)), (q53, .inl (g.2 0, 384, .inl f59)), (q58, .inl (g.2 0, 40, .inl f60)), (q54, .inl (g.2 0, 40, .inl f60)), (q48, .inr (9, [.ref q65, .ref q66, .int 1, .int 0])), (q65, .inl (g.2 0, 10, .inl f59)), (q66, .inl (g.2 0, 10, .inl f73)), (q38, .inl (g.2 0, 60, .inl f59)), (q49, .inl (g.2 0, 60, .inl f59)), (q39, .inl (g.2 0, 20, .inl f74)), (q50, .inl (g.2 0, 20, .inl f74)), (q71, .inl (g.2 0, 10, .inl f59)), (q72, .inl (g.2 0, 10, .inl (upd f73 0 x3))), (q37, .inr (9, [.ref q71, .ref q72, .int 1, .int 0])), (q19, .inr (10, [.ref q23, .int 1, .int 1])), (q1, .inr (11, [.ref q19, w9, w10, w11, w12, w13, w14, w15, .int 0, .int 0, w18]))] := hD
  refine lv_aload_n hx hb dX9_setTempo_91 rfl (lv_at hl 1 rfl) ?_
  refine gf_RX9_193 hx hb hown hE hP 2 rfl rfl dX9_setTempo_92 ?_
  refine g_i (wr := [(q23, .inl (g.2 3, 10, .inr (.inr (.inr (.inr f24))))), (q28, .inr (8, [.ref q47, .ref q48, .ref q49, .ref q50, .int 0, .int 4, .int 0])), (q26, .inr (8, [.ref q36, .ref q37, .ref q38, .ref q39, .int 0, .int 4, .int 0])), (q36, .inr (5, [.ref q57, .ref q58])), (q47, .inr (5, [.ref q53, .ref q54])), (q57, .inl (g.2 0, 384, .inl f59)), (q53, .inl (g.2 0, 384, .inl f59)), (q58, .inl (g.2 0, 40, .inl f60)), (q54, .inl (g.2 0, 40, .inl f60)), (q48, .inr (9, [.ref q65, .ref q66, .int 1, .int 0])), (q65, .inl (g.2 0, 10, .inl f59)), (q66, .inl (g.2 0, 10, .inl f73)), (q38, .inl (g.2 0, 60, .inl f59)), (q49, .inl (g.2 0, 60, .inl f59)), (q39, .inl (g.2 0, 20, .inl f74)), (q50, .inl (g.2 0, 20, .inl f74)), (q71, .inl (g.2 0, 10, .inl f59)), (q72, .inl (g.2 0, 10, .inl (upd f73 0 x3))), (q19, .inr (10, [.ref q23, .int 1, .int 1])), (q1, .inr (11, [.ref q19, w9, w10, w11, w12, w13, w14, w15, .int 0, .int 0, w18]))]) (rV (rest := []) hx hb hml hown hE hP hD 18 rfl rfl (c1658_X7_placeCount l g q37 (.ref q71) (.ref q72) (.int 0) H.size) (kV_X7_placeCount hE (e865 hE) rfl rfl ⟨(Nat.le_of_ble_eq_true rfl), (Nat.le_of_ble_eq_true rfl)⟩) [18] rfl (by decide) rfl hl.1 rfl (lv_room (Nat.le_of_ble_eq_true rfl)) dX9_setTempo_95 ⟨(Nat.le_of_ble_eq_true rfl), (Nat.le_of_ble_eq_true rfl)⟩) hP hD hS hA [18] [0, 1, 2, 3, 4, 5, 6, 7, 8, 9, 10, 11, 12, 13, 14, 15, 16, 17, 19, 20] rfl rfl (by decide) (by decide) (fun u7 H locs hP hD hS => ?_)
  have hP : va_P g.1 vwCl [(q23, .inl (g.2 3, 10, .inr (.inr (.inr (.inr f24))))), (q28, .inr (8, [.ref q47, .ref q48, .ref q49, .ref q50, .int 0, .int 4, .int 0])), (q26, .inr (8, [.ref q36, .ref q37, .ref q38, .ref q39, .int 0, .int 4, .int 0])), (q36, .inr (5, [.ref q57, .ref q58])), (q47, .inr (5, [.ref q53, .ref q54])), (q57, .inl (g.2 0, 384, .inl f59)), (q53, .inl (g.2 0, 384, .inl f59)), (q58, .inl (g.2 0, 40, .inl f60)), (q54, .inl (g.2 0, 40, .inl f60)), (q48, .inr (9, [.ref q65, .ref q66, .int 1, .int 0])), (q65, .inl (g.2 0, 10, .inl f59)), (q66, .inl (g.2 0, 10, .inl f73)), (q38, .inl (g.2 0, 60, .inl f59)), (q49, .inl (g.2 0, 60, .inl f59)), (q39, .inl (g.2 0, 20, .inl f74)), (q50, .inl (g.2 0, 20, .inl f74)), (q71, .inl (g.2 0, 10, .inl f59)), (q72, .inl (g.2 0, 10, .inl (upd f73 0 x3))), (q19, .inr (10, [.ref q23, .int 1, .int 1])), (q1, .inr (11, [.ref q19, w9, w10, w11, w12, w13, w14, w15, .int 0, .int 0, w18])), (q37, .inr (9, [.ref q71, .ref q72, .int 1, .int 0]))] H := hP
  have hD : va_D A [(q23, .inl (g.2 3, 10, .inr (.inr (.inr (.inr f24))))), (q28, .inr (8, [.ref q47, .ref q48, .ref q49, .ref q50, .int 0, .int 4, .int 0])), (q26, .inr (8, [.ref q36, .ref q37, .ref q38, .ref q39, .int 0, .int 4, .int 0])), (q36, .inr (5, [.ref q57, .ref q58])), (q47, .inr (5, [.ref q53, .ref q54])), (q57, .inl (g.2 0, 384, .inl f59)), (q53, .inl (g.2 0, 384, .inl f59)), (q58, .inl (g.2 0, 40, .inl f60)), (q54, .inl (g.2 0, 40, .inl f60)), (q48, .inr (9, [.ref q65, .ref q66, .int 1, .int 0])), (q65, .inl (g.2 0, 10, .inl f59)), (q66, .inl (g.2 0, 10, .inl f73)), (q38, .inl (g.2 0, 60, .inl f59)), (q49, .inl (g.2 0, 60, .inl f59)), (q39, .inl (g.2 0, 20, .inl f74)), (q50, .inl (g.2 0, 20, .inl f74)), (q71, .inl (g.2 0, 10, .inl f59)), (q72, .inl (g.2 0, 10, .inl (upd f73 0 x3))), (q19, .inr (10, [.ref q23, .int 1, .int 1])), (q1, .inr (11, [.ref q19, w9, w10, w11, w12, w13, w14, w15, .int 0, .int 0, w18])), (q37, .inr (9, [.ref q71, .ref q72, .int 1, .int 0]))] := hD
  exact x_zret hx hb hr rfl rfl hlocks hP hD hS hAe hsz (Nat.le_of_ble_eq_true rfl) (Nat.le_of_ble_eq_true rfl) (fun _ => 0) [0, 1, 2, 3, 4, 5, 6, 7, 8, 9, 10, 11, 12, 13, 14, 15, 16, 17, 18, 19, 20] (by decide) rfl dX9_setTempo_98

set_option maxHeartbeats 4000000 in
set_option maxRecDepth 100000 in
theorem c1720_L_setTempo (l : Launch) (g : gG) (hlx : l.stackTraces = false) (q1 q4 q19 q23 q26 q28 q36 q37 q38 q39 q47 q48 q49 q50 q53 q54 q57 q58 q66 q67 q72 q73 : Nat) (x2 x3 : Int32) (w9 w10 w11 w12 w13 w14 w15 w16 w17 w18 w33 w34 w35 w70 w71 : Value) (f24 : Nat → Option Nat) (f59 : Nat → Int32) (f61 : Nat → Int32) (f74 : Nat → Int32) (f75 : Nat → Int32) (f78 : Nat → Int64) (hf25 : f24 1 = some q26) (hf27 : f24 0 = some q28) (hf60 : f59 0 = 0) (h5 : (0 : Int32) ≤ x2) (h6 : x2 ≤ 30000) (h7 : (1 : Int32) ≤ x3) (h76 : x3 ≤ 1000) (h77 : (0 : Int32) = x2) (sz : Nat) : Met l yL_setTempo [Cond.codeWith yL_setTempo cL_setTempo 5 (some .int) [(0, 10, 13, 15), (0, 10, 17, 17)]] ({ frames := 6, cells := 0, slots := 0, locals := 172 } : Room) (va_Pc [.ref q1, .int x2, .int x3, .ref q4] (PZ g sz [(q4, .inl (g.2 1, 1, .inr (.inl f78))), (q39, .inl (g.2 0, 20, .inl f75)), (q50, .inl (g.2 0, 20, .inl f75)), (q38, .inl (g.2 0, 60, .inl f59)), (q49, .inl (g.2 0, 60, .inl f59)), (q73, .inl (g.2 0, 10, .inl f74)), (q67, .inl (g.2 0, 10, .inl f74)), (q72, .inl (g.2 0, 10, .inl f59)), (q66, .inl (g.2 0, 10, .inl f59)), (q37, .inr (9, [.ref q72, .ref q73, w70, w71])), (q48, .inr (9, [.ref q66, .ref q67, .int 1, .int 0])), (q58, .inl (g.2 0, 40, .inl f61)), (q54, .inl (g.2 0, 40, .inl f61)), (q57, .inl (g.2 0, 384, .inl f59)), (q53, .inl (g.2 0, 384, .inl f59)), (q36, .inr (5, [.ref q57, .ref q58])), (q47, .inr (5, [.ref q53, .ref q54])), (q28, .inr (8, [.ref q47, .ref q48, .ref q49, .ref q50, .int 0, .int 4, .int 0])), (q26, .inr (8, [.ref q36, .ref q37, .ref q38, .ref q39, w33, w34, w35])), (q23, .inl (g.2 3, 10, .inr (.inr (.inr (.inr f24))))), (q19, .inr (10, [.ref q23, .int 0, .int 0])), (q1, .inr (11, [.ref q19, w9, w10, w11, w12, w13, w14, w15, w16, w17, w18]))])) (QI g [(q4, .inl (g.2 1, 1, .inr (.inl f78))), (q39, .inl (g.2 0, 20, .inl f75)), (q50, .inl (g.2 0, 20, .inl f75)), (q38, .inl (g.2 0, 60, .inl f59)), (q49, .inl (g.2 0, 60, .inl f59)), (q73, .inl (g.2 0, 10, .inl f74)), (q67, .inl (g.2 0, 10, .inl f74)), (q72, .inl (g.2 0, 10, .inl f59)), (q66, .inl (g.2 0, 10, .inl f59)), (q37, .inr (9, [.ref q72, .ref q73, w70, w71])), (q48, .inr (9, [.ref q66, .ref q67, .int 1, .int 0])), (q58, .inl (g.2 0, 40, .inl f61)), (q54, .inl (g.2 0, 40, .inl f61)), (q57, .inl (g.2 0, 384, .inl f59)), (q53, .inl (g.2 0, 384, .inl f59)), (q36, .inr (5, [.ref q57, .ref q58])), (q47, .inr (5, [.ref q53, .ref q54])), (q28, .inr (8, [.ref q47, .ref q48, .ref q49, .ref q50, .int 0, .int 4, .int 0])), (q26, .inr (8, [.ref q36, .ref q37, .ref q38, .ref q39, w33, w34, w35])), (q23, .inl (g.2 3, 10, .inr (.inr (.inr (.inr f24))))), (q19, .inr (10, [.ref q23, .int 0, .int 0])), (q1, .inr (11, [.ref q19, w9, w10, w11, w12, w13, w14, w15, w16, w17, w18]))] sz 0 (fun _ => [(q4, .inl (g.2 1, 1, .inr (.inl (vp_updL f78 0 1))))])) 0 0 (va_A [(q4, .inl (g.2 1, 1, .inr (.inl f78))), (q39, .inl (g.2 0, 20, .inl f75)), (q50, .inl (g.2 0, 20, .inl f75)), (q38, .inl (g.2 0, 60, .inl f59)), (q49, .inl (g.2 0, 60, .inl f59)), (q73, .inl (g.2 0, 10, .inl f74)), (q67, .inl (g.2 0, 10, .inl f74)), (q72, .inl (g.2 0, 10, .inl f59)), (q66, .inl (g.2 0, 10, .inl f59)), (q37, .inr (9, [.ref q72, .ref q73, w70, w71])), (q48, .inr (9, [.ref q66, .ref q67, .int 1, .int 0])), (q58, .inl (g.2 0, 40, .inl f61)), (q54, .inl (g.2 0, 40, .inl f61)), (q57, .inl (g.2 0, 384, .inl f59)), (q53, .inl (g.2 0, 384, .inl f59)), (q36, .inr (5, [.ref q57, .ref q58])), (q47, .inr (5, [.ref q53, .ref q54])), (q28, .inr (8, [.ref q47, .ref q48, .ref q49, .ref q50, .int 0, .int 4, .int 0])), (q26, .inr (8, [.ref q36, .ref q37, .ref q38, .ref q39, w33, w34, w35])), (q23, .inl (g.2 3, 10, .inr (.inr (.inr (.inr f24))))), (q19, .inr (10, [.ref q23, .int 0, .int 0])), (q1, .inr (11, [.ref q19, w9, w10, w11, w12, w13, w14, w15, w16, w17, w18]))] sz) := by
  refine ofH (by decide) (Nat.le_of_ble_eq_true rfl) rfl ?_
  intro p e s m args below meth c A ls hAe hsz hx hb hml hr hlocks hin hown hE hP hD hA hS hl htb hz
  have hown : s.vm.findClass RL = some m.cls := hown
  refine lv_aload_n hx hb dL_setTempo_0 rfl (lv_at hl 3 rfl) ?_
  refine lv_iconst (v := 0) hx hb dL_setTempo_1 (by decide) ?_
  refine lv_aload_n hx hb dL_setTempo_2 rfl (lv_at hl 0 rfl) ?_
  refine lv_iload_n hx hb dL_setTempo_3 rfl (lv_at hl 1 rfl) ?_
  refine lv_iload_n hx hb dL_setTempo_4 rfl (lv_at hl 2 rfl) ?_
  refine g_i (wr := [(q4, .inl (g.2 1, 1, .inr (.inl f78)))]) (rV (rest := [.int 0, .ref q4]) hx hb hml hown hE hP hD 21 rfl rfl (c1719_X9_setTempo l g q1 q19 q23 q26 q28 q36 q37 q38 q39 q47 q48 q49 q50 q53 q54 q57 q58 q66 q67 q72 q73 x2 x3 w9 w10 w11 w12 w13 w14 w15 w16 w17 w18 w33 w34 w35 w70 w71 f24 f59 f61 f74 f75 (hf25) (hf27) (hf60) h5 h6 h7 h76 h77 s.heap.size) (kV_X9_setTempo hE (e904 hE) rfl rfl ⟨(Nat.le_of_ble_eq_true rfl), (Nat.le_of_ble_eq_true rfl)⟩) [1, 2, 3, 4, 5, 6, 7, 8, 9, 10, 11, 12, 13, 14, 15, 16, 17, 18, 19, 20, 21] rfl (by decide) rfl hl.1 rfl (lv_room (Nat.le_of_ble_eq_true rfl)) dL_setTempo_5 ⟨(Nat.le_of_ble_eq_true rfl), (Nat.le_of_ble_eq_true rfl)⟩) hP hD hS hA [1, 2, 3, 4, 5, 6, 7, 8, 9, 10, 11, 12, 13, 14, 15, 16, 17, 18, 19, 20, 21] [0] rfl rfl (by decide) (by decide) (fun u1 H locs hP hD hS => ?_)
  have hP : va_P g.1 vwCl [(q4, .inl (g.2 1, 1, .inr (.inl f78))), (q23, .inl (g.2 3, 10, .inr (.inr (.inr (.inr f24))))), (q28, .inr (8, [.ref q47, .ref q48, .ref q49, .ref q50, .int 0, .int 4, .int 0])), (q26, .inr (8, [.ref q36, .ref q37, .ref q38, .ref q39, .int 0, .int 4, .int 0])), (q36, .inr (5, [.ref q57, .ref q58])), (q47, .inr (5, [.ref q53, .ref q54])), (q57, .inl (g.2 0, 384, .inl f59)), (q53, .inl (g.2 0, 384, .inl f59)), (q58, .inl (g.2 0, 40, .inl f61)), (q54, .inl (g.2 0, 40, .inl f61)), (q48, .inr (9, [.ref q66, .ref q67, .int 1, .int 0])), (q66, .inl (g.2 0, 10, .inl f59)), (q67, .inl (g.2 0, 10, .inl f74)), (q38, .inl (g.2 0, 60, .inl f59)), (q49, .inl (g.2 0, 60, .inl f59)), (q39, .inl (g.2 0, 20, .inl f75)), (q50, .inl (g.2 0, 20, .inl f75)), (q72, .inl (g.2 0, 10, .inl f59)), (q73, .inl (g.2 0, 10, .inl (upd f74 0 x3))), (q19, .inr (10, [.ref q23, .int 1, .int 1])), (q1, .inr (11, [.ref q19, w9, w10, w11, w12, w13, w14, w15, .int 0, .int 0, w18])), (q37, .inr (9, [.ref q72, .ref q73, .int 1, .int 0]))] H := hP
  have hD : va_D A [(q4, .inl (g.2 1, 1, .inr (.inl f78))), (q23, .inl (g.2 3, 10, .inr (.inr (.inr (.inr f24))))), (q28, .inr (8, [.ref q47, .ref q48, .ref q49, .ref q50, .int 0, .int 4, .int 0])), (q26, .inr (8, [.ref q36, .ref q37, .ref q38, .ref q39, .int 0, .int 4, .int 0])), (q36, .inr (5, [.ref q57, .ref q58])), (q47, .inr (5, [.ref q53, .ref q54])), (q57, .inl (g.2 0, 384, .inl f59)), (q53, .inl (g.2 0, 384, .inl f59)), (q58, .inl (g.2 0, 40, .inl f61)), (q54, .inl (g.2 0, 40, .inl f61)), (q48, .inr (9, [.ref q66, .ref q67, .int 1, .int 0])), (q66, .inl (g.2 0, 10, .inl f59)), (q67, .inl (g.2 0, 10, .inl f74)), (q38, .inl (g.2 0, 60, .inl f59)), (q49, .inl (g.2 0, 60, .inl f59)), (q39, .inl (g.2 0, 20, .inl f75)), (q50, .inl (g.2 0, 20, .inl f75)), (q72, .inl (g.2 0, 10, .inl f59)), (q73, .inl (g.2 0, 10, .inl (upd f74 0 x3))), (q19, .inr (10, [.ref q23, .int 1, .int 1])), (q1, .inr (11, [.ref q19, w9, w10, w11, w12, w13, w14, w15, .int 0, .int 0, w18])), (q37, .inr (9, [.ref q72, .ref q73, .int 1, .int 0]))] := hD
  refine lv_i2l (v := 1) hx hb dL_setTempo_8 (by decide) ?_
  refine x_last (ws' := [(q4, .inl (g.2 1, 1, .inr (.inl (vp_updL f78 0 1)))), (q23, .inl (g.2 3, 10, .inr (.inr (.inr (.inr f24))))), (q28, .inr (8, [.ref q47, .ref q48, .ref q49, .ref q50, .int 0, .int 4, .int 0])), (q26, .inr (8, [.ref q36, .ref q37, .ref q38, .ref q39, .int 0, .int 4, .int 0])), (q36, .inr (5, [.ref q57, .ref q58])), (q47, .inr (5, [.ref q53, .ref q54])), (q57, .inl (g.2 0, 384, .inl f59)), (q53, .inl (g.2 0, 384, .inl f59)), (q58, .inl (g.2 0, 40, .inl f61)), (q54, .inl (g.2 0, 40, .inl f61)), (q48, .inr (9, [.ref q66, .ref q67, .int 1, .int 0])), (q66, .inl (g.2 0, 10, .inl f59)), (q67, .inl (g.2 0, 10, .inl f74)), (q38, .inl (g.2 0, 60, .inl f59)), (q49, .inl (g.2 0, 60, .inl f59)), (q39, .inl (g.2 0, 20, .inl f75)), (q50, .inl (g.2 0, 20, .inl f75)), (q72, .inl (g.2 0, 10, .inl f59)), (q73, .inl (g.2 0, 10, .inl (upd f74 0 x3))), (q19, .inr (10, [.ref q23, .int 1, .int 1])), (q1, .inr (11, [.ref q19, w9, w10, w11, w12, w13, w14, w15, .int 0, .int 0, w18])), (q37, .inr (9, [.ref q72, .ref q73, .int 1, .int 0]))]) hx hb hE hP hD hS 0 rfl 0 (x_in (by decide)) (by decide) dL_setTempo_9 rfl (fun H locs hP hD hS => ?_)
  refine lv_goto (tgt := 21) hx hb dL_setTempo_10 (by decide) ?_
  refine lv_iconst (v := 0) hx hb dL_setTempo_21 (by decide) ?_
  exact x_zret hx hb hr rfl rfl hlocks hP hD hS hAe hsz (Nat.le_of_ble_eq_true rfl) (Nat.le_of_ble_eq_true rfl) (fun _ => 0) [0] (by decide) rfl dL_setTempo_22

set_option maxHeartbeats 4000000 in
set_option maxRecDepth 100000 in
theorem c1721_X10_setTempo (l : Launch) (g : gG) (q1 q45 q51 q52 : Nat) (x2 x3 : Int32) (w5 w7 w10 w11 w12 w13 w14 w15 w16 w17 w18 w19 w20 w21 w22 w23 w24 w25 w26 w27 w28 w29 w30 w31 w32 w33 w34 w35 w36 w37 w38 w39 w40 : Value) (f46 : Nat → Int32) (f53 : Nat → Int32) (hf47 : f46 453 = 1) (hf48 : f46 454 = 0) (h41 : (0 : Int32) ≤ x2) (h42 : x2 ≤ 30000) (h43 : (1 : Int32) ≤ x3) (h44 : x3 ≤ 1000) (h49 : x2 ≤ 0) (h50 : (0 : Int32) = x2) (sz : Nat) : Met l yX10_setTempo [Cond.code yX10_setTempo cX10_setTempo 6 (some .int)] ({ frames := 2, cells := 0, slots := 0, locals := 41 } : Room) (va_Pc [.ref q1, .int x2, .int x3] (PX g sz [(q52, .inl (g.2 0, 3976, .inl f53)), (q51, .inl (g.2 0, 497, .inl f53)), (q45, .inl (g.2 0, 497, .inl f46)), (q1, .inr (12, [.ref q45, w5, .ref q51, w7, .ref q52, .int 0, w10, w11, w12, w13, w14, w15, w16, w17, w18, w19, w20, w21, w22, w23, w24, w25, w26, w27, w28, w29, w30, w31, w32, w33, w34, w35, w36, w37, w38, w39, w40]))])) (QI g [(q52, .inl (g.2 0, 3976, .inl f53)), (q51, .inl (g.2 0, 497, .inl f53)), (q45, .inl (g.2 0, 497, .inl f46)), (q1, .inr (12, [.ref q45, w5, .ref q51, w7, .ref q52, .int 0, w10, w11, w12, w13, w14, w15, w16, w17, w18, w19, w20, w21, w22, w23, w24, w25, w26, w27, w28, w29, w30, w31, w32, w33, w34, w35, w36, w37, w38, w39, w40]))] sz 1 (fun _ => [(q1, .inr (12, [.ref q45, w5, .ref q51, w7, .ref q52, .int 1, .int 0, w11, w12, w13, w14, w15, w16, w17, w18, w19, w20, w21, w22, w23, w24, w25, w26, w27, w28, w29, w30, w31, w32, w33, w34, w35, w36, w37, w38, w39, w40]))])) 0 0 (va_A [(q52, .inl (g.2 0, 3976, .inl f53)), (q51, .inl (g.2 0, 497, .inl f53)), (q45, .inl (g.2 0, 497, .inl f46)), (q1, .inr (12, [.ref q45, w5, .ref q51, w7, .ref q52, .int 0, w10, w11, w12, w13, w14, w15, w16, w17, w18, w19, w20, w21, w22, w23, w24, w25, w26, w27, w28, w29, w30, w31, w32, w33, w34, w35, w36, w37, w38, w39, w40]))] sz) := by
  refine ofN (by decide) (Nat.le_of_ble_eq_true rfl) rfl ?_
  intro p e s m args below meth c A ls hAe hsz hx hb hml hr hlocks hin hown hE hP hD hA hS hl
  have hown : s.vm.findClass RX10 = some m.cls := hown
  refine lv_aload_n hx hb dX10_setTempo_0 rfl (lv_at hl 0 rfl) ?_
  refine lv_iconst (v := 0) hx hb dX10_setTempo_1 (by decide) ?_
  refine pf_RX10_86 (ws' := [(q52, .inl (g.2 0, 3976, .inl f53)), (q51, .inl (g.2 0, 497, .inl f53)), (q45, .inl (g.2 0, 497, .inl f46)), (q1, .inr (12, [.ref q45, w5, .ref q51, w7, .ref q52, .int 0, .int 0, w11, w12, w13, w14, w15, w16, w17, w18, w19, w20, w21, w22, w23, w24, w25, w26, w27, w28, w29, w30, w31, w32, w33, w34, w35, w36, w37, w38, w39, w40]))]) hx hb hown hE hP hD hS 3 rfl rfl rfl (Nat.le_of_ble_eq_true rfl) dX10_setTempo_2 rfl (fun H locs hP hD hS => ?_)
  refine lv_iload_n hx hb dX10_setTempo_5 rfl (lv_at hl 1 rfl) ?_
  refine lv_iconst (v := 0) hx hb dX10_setTempo_6 (by decide) ?_
  refine lv_sipush (v := 30000) hx hb dX10_setTempo_7 (by decide) ?_
  refine g0_i (rS (rest := []) hx hb hml hown hE hP hD (c1703_X10_in l g x2 h41 h42 H.size) (kS_X10_in hE (e1431 hE) rfl rfl ⟨(Nat.le_of_ble_eq_true rfl), (Nat.le_of_ble_eq_true rfl)⟩) [] rfl (by decide) rfl hl.1 rfl (lv_room (Nat.le_of_ble_eq_true rfl)) dX10_setTempo_10 ⟨(Nat.le_of_ble_eq_true rfl), (Nat.le_of_ble_eq_true rfl)⟩) hP hD hS hA (fun u9 H locs hP hS => ?_)
  refine lv_if_eq (tgt := 27) hx hb dX10_setTempo_13 (by decide) (fun h => absurd h (by decide)) (fun _ => ?_)
  refine lv_iload_n hx hb dX10_setTempo_16 rfl (lv_at hl 2 rfl) ?_
  refine lv_iconst (v := 1) hx hb dX10_setTempo_17 (by decide) ?_
  refine lv_sipush (v := 1000) hx hb dX10_setTempo_18 (by decide) ?_
  refine g0_i (rS (rest := []) hx hb hml hown hE hP hD (c1713_X10_in l g x3 h43 h44 H.size) (kS_X10_in hE (e1431 hE) rfl rfl ⟨(Nat.le_of_ble_eq_true rfl), (Nat.le_of_ble_eq_true rfl)⟩) [] rfl (by decide) rfl hl.1 rfl (lv_room (Nat.le_of_ble_eq_true rfl)) dX10_setTempo_21 ⟨(Nat.le_of_ble_eq_true rfl), (Nat.le_of_ble_eq_true rfl)⟩) hP hD hS hA (fun u9 H locs hP hS => ?_)
  refine lv_if_ne (tgt := 33) hx hb dX10_setTempo_24 (by decide) (fun _ => ?_) (fun h => absurd h (by decide))
  refine lv_iconst (v := 0) hx hb dX10_setTempo_33 (by decide) ?_
  refine lv_istore_n (lv' := [(3, .int 0), (0, .ref q1), (1, .int x2), (2, .int x3)]) hx hb dX10_setTempo_34 rfl hl (by decide) rfl (fun ls hl => ?_)
  refine lv_iload_n hx hb dX10_setTempo_35 rfl (lv_at hl 0 rfl) ?_
  refine lv_aload_n hx hb dX10_setTempo_36 rfl (lv_at hl 1 rfl) ?_
  refine gf_RX10_9 hx hb hown hE hP 3 rfl rfl dX10_setTempo_37 ?_
  refine lv_sipush (v := 453) hx hb dX10_setTempo_40 (by decide) ?_
  refine x_iald (v := 1) hx hb hE hP 2 rfl 453 (x_in (by decide)) (by decide) hf47 dX10_setTempo_43 ?_
  refine lv_icmp_ge (tgt := 69) hx hb dX10_setTempo_44 (by decide) (fun h => absurd h (by decide)) (fun _ => ?_)
  refine lv_aload_n hx hb dX10_setTempo_47 rfl (lv_at hl 1 rfl) ?_
  refine gf_RX10_9 hx hb hown hE hP 3 rfl rfl dX10_setTempo_48 ?_
  refine lv_sipush (v := 454) hx hb dX10_setTempo_51 (by decide) ?_
  refine lv_iconst (v := 2) hx hb dX10_setTempo_54 (by decide) ?_
  refine lv_iload_n hx hb dX10_setTempo_55 rfl (lv_at hl 0 rfl) ?_
  refine x_imul (v := 0) hx hb dX10_setTempo_56 (by decide) ?_
  refine x_iadd (v := 454) hx hb dX10_setTempo_57 (by decide) ?_
  refine x_iald (v := 0) hx hb hE hP 2 rfl 454 (x_in (by decide)) (by decide) hf48 dX10_setTempo_58 ?_
  refine lv_iload_n hx hb dX10_setTempo_59 rfl (lv_at hl 2 rfl) ?_
  refine lv_icmp_ge (tgt := 69) hx hb dX10_setTempo_60 (by decide) (fun _ => ?_) (fun h => absurd h49 h)
  refine lv_iload_n hx hb dX10_setTempo_69 rfl (lv_at hl 0 rfl) ?_
  refine lv_aload_n hx hb dX10_setTempo_70 rfl (lv_at hl 1 rfl) ?_
  refine gf_RX10_9 hx hb hown hE hP 3 rfl rfl dX10_setTempo_71 ?_
  refine lv_sipush (v := 453) hx hb dX10_setTempo_74 (by decide) ?_
  refine x_iald (v := 1) hx hb hE hP 2 rfl 453 (x_in (by decide)) (by decide) hf47 dX10_setTempo_77 ?_
  refine lv_icmp_ge (tgt := 101) hx hb dX10_setTempo_78 (by decide) (fun h => absurd h (by decide)) (fun _ => ?_)
  refine lv_aload_n hx hb dX10_setTempo_81 rfl (lv_at hl 1 rfl) ?_
  refine gf_RX10_9 hx hb hown hE hP 3 rfl rfl dX10_setTempo_82 ?_
  refine lv_sipush (v := 454) hx hb dX10_setTempo_85 (by decide) ?_
  refine lv_iconst (v := 2) hx hb dX10_setTempo_88 (by decide) ?_
  refine lv_iload_n hx hb dX10_setTempo_89 rfl (lv_at hl 0 rfl) ?_
  refine x_imul (v := 0) hx hb dX10_setTempo_90 (by decide) ?_
  refine x_iadd (v := 454) hx hb dX10_setTempo_91 (by decide) ?_
  refine x_iald (v := 0) hx hb hE hP 2 rfl 454 (x_in (by decide)) (by decide) hf48 dX10_setTempo_92 ?_
  refine lv_iload_n hx hb dX10_setTempo_93 rfl (lv_at hl 2 rfl) ?_
  refine lv_icmp_ne (tgt := 101) hx hb dX10_setTempo_94 (by decide) (fun h => absurd h (i_nne h50)) (fun _ => ?_)
  refine lv_iconst (v := 1) hx hb dX10_setTempo_97 (by decide) ?_
  refine lv_goto (tgt := 102) hx hb dX10_setTempo_98 (by decide) ?_
  refine lv_istore (lv' := [(4, .int 1), (3, .int 0), (0, .ref q1), (1, .int x2), (2, .int x3)]) hx hb dX10_setTempo_102 hl (by decide) rfl (fun ls hl => ?_)
  refine lv_iload hx hb dX10_setTempo_104 (lv_at hl 0 rfl) ?_
  refine lv_if_ne (tgt := 128) hx hb dX10_setTempo_106 (by decide) (fun _ => ?_) (fun h => absurd h (by decide))
  refine lv_aload_n hx hb dX10_setTempo_128 rfl (lv_at hl 2 rfl) ?_
  refine g_v (wr := []) (rV (rest := []) hx hb hml hown hE hP hD 3 rfl rfl (c1714_X10_keepNow l g q1 q45 q51 q52 w5 w7 (.int 0) w11 w12 w13 w14 w15 w16 w17 w18 w19 w20 w21 w22 w23 w24 w25 w26 w27 w28 w29 w30 w31 w32 w33 w34 w35 w36 w37 w38 w39 w40 f46 f53 H.size) (kV_X10_keepNow hE (e1494 hE) rfl rfl ⟨(Nat.le_of_ble_eq_true rfl), (Nat.le_of_ble_eq_true rfl)⟩) [0, 1, 2, 3] rfl (by decide) rfl hl.1 rfl (lv_room (Nat.le_of_ble_eq_true rfl)) dX10_setTempo_129 ⟨(Nat.le_of_ble_eq_true rfl), (Nat.le_of_ble_eq_true rfl)⟩) hP hD hS hA [0, 1, 2, 3] [] rfl rfl (by decide) (by decide) (fun u3 H locs hP hD hS => ?_)
  have hP : va_P g.1 vwCl [(q45, .inl (g.2 0, 497, .inl f46)), (q52, .inl (g.2 0, 3976, .inl (cpF 497 (cpF 497 f46 f53) f53))), (q51, .inl (g.2 0, 497, .inl (cpF 497 f46 f53))), (q1, .inr (12, [.ref q45, w5, .ref q51, w7, .ref q52, .int 1, .int 0, w11, w12, w13, w14, w15, w16, w17, w18, w19, w20, w21, w22, w23, w24, w25, w26, w27, w28, w29, w30, w31, w32, w33, w34, w35, w36, w37, w38, w39, w40]))] H := hP
  have hD : va_D A [(q45, .inl (g.2 0, 497, .inl f46)), (q52, .inl (g.2 0, 3976, .inl (cpF 497 (cpF 497 f46 f53) f53))), (q51, .inl (g.2 0, 497, .inl (cpF 497 f46 f53))), (q1, .inr (12, [.ref q45, w5, .ref q51, w7, .ref q52, .int 1, .int 0, w11, w12, w13, w14, w15, w16, w17, w18, w19, w20, w21, w22, w23, w24, w25, w26, w27, w28, w29, w30, w31, w32, w33, w34, w35, w36, w37, w38, w39, w40]))] := hD
  refine lv_iload hx hb dX10_setTempo_132 (lv_at hl 0 rfl) ?_
  refine lv_if_ne (tgt := 214) hx hb dX10_setTempo_134 (by decide) (fun _ => ?_) (fun h => absurd h (by decide))
  refine lv_aload_n hx hb dX10_setTempo_214 rfl (lv_at hl 2 rfl) ?_
  refine gf_RX10_9 hx hb hown hE hP 3 rfl rfl dX10_setTempo_215 ?_
  refine lv_sipush (v := 454) hx hb dX10_setTempo_218 (by decide) ?_
  refine lv_iconst (v := 2) hx hb dX10_setTempo_221 (by decide) ?_
  refine lv_iload_n hx hb dX10_setTempo_222 rfl (lv_at hl 1 rfl) ?_
  refine x_imul (v := 0) hx hb dX10_setTempo_223 (by decide) ?_
  refine x_iadd (v := 454) hx hb dX10_setTempo_224 (by decide) ?_
  refine lv_iconst (v := 1) hx hb dX10_setTempo_225 (by decide) ?_
  refine x_iadd (v := 455) hx hb dX10_setTempo_226 (by decide) ?_
  refine lv_iload_n hx hb dX10_setTempo_227 rfl (lv_at hl 4 rfl) ?_
  refine x_iast (ws' := [(q45, .inl (g.2 0, 497, .inl (upd f46 455 x3))), (q52, .inl (g.2 0, 3976, .inl (cpF 497 (cpF 497 f46 f53) f53))), (q51, .inl (g.2 0, 497, .inl (cpF 497 f46 f53))), (q1, .inr (12, [.ref q45, w5, .ref q51, w7, .ref q52, .int 1, .int 0, w11, w12, w13, w14, w15, w16, w17, w18, w19, w20, w21, w22, w23, w24, w25, w26, w27, w28, w29, w30, w31, w32, w33, w34, w35, w36, w37, w38, w39, w40]))]) hx hb hE hP hD hS 0 rfl 455 (x_in (by decide)) (by decide) dX10_setTempo_228 rfl (fun H locs hP hD hS => ?_)
  refine lv_aload_n hx hb dX10_setTempo_229 rfl (lv_at hl 2 rfl) ?_
  refine gf_RX10_9 hx hb hown hE hP 3 rfl rfl dX10_setTempo_230 ?_
  refine lv_sipush (v := 453) hx hb dX10_setTempo_233 (by decide) ?_
  refine x_iald (v := 1) hx hb hE hP 0 rfl 453 (x_in (by decide)) (by decide) ((pk_un (by decide)).trans hf47) dX10_setTempo_236 ?_
  exact x_zret hx hb hr rfl rfl hlocks hP hD hS hAe hsz (Nat.le_of_ble_eq_true rfl) (Nat.le_of_ble_eq_true rfl) (fun _ => 0) [3] (by decide) rfl dX10_setTempo_237

set_option maxHeartbeats 4000000 in
set_option maxRecDepth 100000 in
theorem c1722_X9_requireRange (l : Launch) (g : gG) (hlx : l.stackTraces = false) (x1 : Int32) (h2 : (1 : Int32) ≤ x1) (h3 : (1000 : Int32) < x1) (sz : Nat) : vx_Met l yX9_requireRange [Cond.code yX9_requireRange cX9_requireRange 3 none] ({ frames := 6, cells := 1, slots := 6, locals := 100 } : Room) (va_Pc [.int x1, .int 1, .int 1000] (PZ g sz [])) NV (XW g [] sz "java/lang/IllegalArgumentException" []) 1 6 (va_A [] sz) := by
  refine ofX (by decide) (Nat.le_of_ble_eq_true rfl) rfl ?_
  intro p e s m args below meth c A ls hAe hsz hx hb hml hr hlocks hin hown hE hP hD hA hS hl hex hz
  have hown : s.vm.findClass RX9 = some m.cls := hown
  refine lv_iload_n hx hb dX9_requireRange_0 rfl (lv_at hl 0 rfl) ?_
  refine lv_iload_n hx hb dX9_requireRange_1 rfl (lv_at hl 1 rfl) ?_
  refine lv_icmp_lt (tgt := 10) hx hb dX9_requireRange_2 (by decide) (fun h => absurd h (i_nlt h2)) (fun _ => ?_)
  refine lv_iload_n hx hb dX9_requireRange_5 rfl (lv_at hl 0 rfl) ?_
  refine lv_iload_n hx hb dX9_requireRange_6 rfl (lv_at hl 2 rfl) ?_
  refine lv_icmp_le (tgt := 21) hx hb dX9_requireRange_7 (by decide) (fun h => absurd h (i_nle h3)) (fun _ => ?_)
  exact x_throwW (text := "a number is out of range") (names := ["java/lang/RuntimeException", "java/lang/Exception"]) hx hb hlx hown hE (by decide) (by decide) (e639 hE) (e20 hE) (by decide +kernel) (th_215 hE) tg_215_211 hz (by rw [hml]; exact hl.1) dX9_requireRange_10 dX9_requireRange_13 dX9_requireRange_14 dX9_requireRange_17 dX9_requireRange_20 hex (Nat.le_of_ble_eq_true rfl) (Nat.le_of_ble_eq_true rfl) (Nat.le_of_ble_eq_true rfl) (Nat.le_of_ble_eq_true rfl) hlocks hP hD hS hAe hsz (Nat.le_of_ble_eq_true rfl) (Nat.le_of_ble_eq_true rfl) [] (by decide) rfl

set_option maxHeartbeats 4000000 in
set_option maxRecDepth 100000 in
theorem c1723_X9_setTempo (l : Launch) (g : gG) (hlx : l.stackTraces = false) (q1 : Nat) (x2 x3 : Int32) (h4 : (0 : Int32) ≤ x2) (h5 : x2 ≤ 30000) (h6 : (1 : Int32) ≤ x3) (h7 : (1000 : Int32) < x3) (sz : Nat) : vx_Met l yX9_setTempo [Cond.code yX9_setTempo cX9_setTempo 5 (some .int)] ({ frames := 7, cells := 1, slots := 6, locals := 122 } : Room) (va_Pc [.ref q1, .int x2, .int x3] (PZ g sz [])) NI (XW g [] sz "java/lang/IllegalArgumentException" []) 1 6 (va_A [] sz) := by
  refine ofX (by decide) (Nat.le_of_ble_eq_true rfl) rfl ?_
  intro p e s m args below meth c A ls hAe hsz hx hb hml hr hlocks hin hown hE hP hD hA hS hl hex hz
  have hown : s.vm.findClass RX9 = some m.cls := hown
  refine lv_iload_n hx hb dX9_setTempo_0 rfl (lv_at hl 1 rfl) ?_
  refine lv_iconst (v := 0) hx hb dX9_setTempo_1 (by decide) ?_
  refine lv_sipush (v := 30000) hx hb dX9_setTempo_2 (by decide) ?_
  refine g0_v (rS (rest := []) hx hb hml hown hE hP hD (c1699_X9_requireRange l g x2 h4 h5 s.heap.size) (kS_X9_requireRange hE (e636 hE) rfl rfl ⟨(Nat.le_of_ble_eq_true rfl), (Nat.le_of_ble_eq_true rfl)⟩) [] rfl (by decide) rfl hl.1 rfl (lv_room (Nat.le_of_ble_eq_true rfl)) dX9_setTempo_5 ⟨(Nat.le_of_ble_eq_true rfl), (Nat.le_of_ble_eq_true rfl)⟩) hP hD hS hA (fun u9 H locs hP hS => ?_)
  refine lv_iload_n hx hb dX9_setTempo_8 rfl (lv_at hl 2 rfl) ?_
  refine lv_iconst (v := 1) hx hb dX9_setTempo_9 (by decide) ?_
  refine lv_sipush (v := 1000) hx hb dX9_setTempo_10 (by decide) ?_
  refine gx_v (wr := []) (rSx (rest := []) hx hb hml hown hE hP hD hS hA hz (c1722_X9_requireRange l g hlx x3 h6 h7 H.size) (kS_X9_requireRange hE (e636 hE) rfl rfl ⟨(Nat.le_of_ble_eq_true rfl), (Nat.le_of_ble_eq_true rfl)⟩) [] rfl (by decide) rfl hl.1 rfl (lv_room (Nat.le_of_ble_eq_true rfl)) dX9_setTempo_13 ⟨(Nat.le_of_ble_eq_true rfl), (Nat.le_of_ble_eq_true rfl)⟩) hP hD hS hA [] [] rfl rfl (by decide) (by decide) (fun ce9 q9 H locs hP hD hS hq1 hq2 hq3 => ?_)
  exact x_out hex hlocks hq1 hq2 hq3 hP hD hS hAe hsz (Nat.le_of_ble_eq_true rfl) (Nat.le_of_ble_eq_true rfl) [] (by decide) rfl

set_option maxHeartbeats 4000000 in
set_option maxRecDepth 100000 in
theorem c1724_L_setTempo (l : Launch) (g : gG) (hlx : l.stackTraces = false) (q1 q4 q19 q23 q26 q28 q36 q37 q38 q39 q47 q48 q49 q50 q53 q54 q57 q58 q66 q67 q72 q73 : Nat) (x2 x3 : Int32) (w9 w10 w11 w12 w13 w14 w15 w16 w17 w18 w33 w34 w35 w70 w71 : Value) (f24 : Nat → Option Nat) (f59 : Nat → Int32) (f61 : Nat → Int32) (f74 : Nat → Int32) (f75 : Nat → Int32) (hf25 : f24 1 = some q26) (hf27 : f24 0 = some q28) (hf60 : f59 0 = 0) (h5 : (0 : Int32) ≤ x2) (h6 : x2 ≤ 30000) (h7 : (1 : Int32) ≤ x3) (h76 : (1000 : Int32) < x3) (sz : Nat) : Met l yL_setTempo [Cond.codeWith yL_setTempo cL_setTempo 5 (some .int) [(0, 10, 13, 15), (0, 10, 17, 17)]] ({ frames := 8, cells := 1, slots := 6, locals := 146 } : Room) (va_Pc [.ref q1, .int x2, .int x3, .ref q4] (PZ g sz [(q39, .inl (g.2 0, 20, .inl f75)), (q50, .inl (g.2 0, 20, .inl f75)), (q38, .inl (g.2 0, 60, .inl f59)), (q49, .inl (g.2 0, 60, .inl f59)), (q73, .inl (g.2 0, 10, .inl f74)), (q67, .inl (g.2 0, 10, .inl f74)), (q72, .inl (g.2 0, 10, .inl f59)), (q66, .inl (g.2 0, 10, .inl f59)), (q37, .inr (9, [.ref q72, .ref q73, w70, w71])), (q48, .inr (9, [.ref q66, .ref q67, .int 1, .int 0])), (q58, .inl (g.2 0, 40, .inl f61)), (q54, .inl (g.2 0, 40, .inl f61)), (q57, .inl (g.2 0, 384, .inl f59)), (q53, .inl (g.2 0, 384, .inl f59)), (q36, .inr (5, [.ref q57, .ref q58])), (q47, .inr (5, [.ref q53, .ref q54])), (q28, .inr (8, [.ref q47, .ref q48, .ref q49, .ref q50, .int 0, .int 4, .int 0])), (q26, .inr (8, [.ref q36, .ref q37, .ref q38, .ref q39, w33, w34, w35])), (q23, .inl (g.2 3, 10, .inr (.inr (.inr (.inr f24))))), (q19, .inr (10, [.ref q23, .int 0, .int 0])), (q1, .inr (11, [.ref q19, w9, w10, w11, w12, w13, w14, w15, w16, w17, w18]))])) (QI g [(q39, .inl (g.2 0, 20, .inl f75)), (q50, .inl (g.2 0, 20, .inl f75)), (q38, .inl (g.2 0, 60, .inl f59)), (q49, .inl (g.2 0, 60, .inl f59)), (q73, .inl (g.2 0, 10, .inl f74)), (q67, .inl (g.2 0, 10, .inl f74)), (q72, .inl (g.2 0, 10, .inl f59)), (q66, .inl (g.2 0, 10, .inl f59)), (q37, .inr (9, [.ref q72, .ref q73, w70, w71])), (q48, .inr (9, [.ref q66, .ref q67, .int 1, .int 0])), (q58, .inl (g.2 0, 40, .inl f61)), (q54, .inl (g.2 0, 40, .inl f61)), (q57, .inl (g.2 0, 384, .inl f59)), (q53, .inl (g.2 0, 384, .inl f59)), (q36, .inr (5, [.ref q57, .ref q58])), (q47, .inr (5, [.ref q53, .ref q54])), (q28, .inr (8, [.ref q47, .ref q48, .ref q49, .ref q50, .int 0, .int 4, .int 0])), (q26, .inr (8, [.ref q36, .ref q37, .ref q38, .ref q39, w33, w34, w35])), (q23, .inl (g.2 3, 10, .inr (.inr (.inr (.inr f24))))), (q19, .inr (10, [.ref q23, .int 0, .int 0])), (q1, .inr (11, [.ref q19, w9, w10, w11, w12, w13, w14, w15, w16, w17, w18]))] sz 1 (fun _ => [])) 1 6 (va_A [(q39, .inl (g.2 0, 20, .inl f75)), (q50, .inl (g.2 0, 20, .inl f75)), (q38, .inl (g.2 0, 60, .inl f59)), (q49, .inl (g.2 0, 60, .inl f59)), (q73, .inl (g.2 0, 10, .inl f74)), (q67, .inl (g.2 0, 10, .inl f74)), (q72, .inl (g.2 0, 10, .inl f59)), (q66, .inl (g.2 0, 10, .inl f59)), (q37, .inr (9, [.ref q72, .ref q73, w70, w71])), (q48, .inr (9, [.ref q66, .ref q67, .int 1, .int 0])), (q58, .inl (g.2 0, 40, .inl f61)), (q54, .inl (g.2 0, 40, .inl f61)), (q57, .inl (g.2 0, 384, .inl f59)), (q53, .inl (g.2 0, 384, .inl f59)), (q36, .inr (5, [.ref q57, .ref q58])), (q47, .inr (5, [.ref q53, .ref q54])), (q28, .inr (8, [.ref q47, .ref q48, .ref q49, .ref q50, .int 0, .int 4, .int 0])), (q26, .inr (8, [.ref q36, .ref q37, .ref q38, .ref q39, w33, w34, w35])), (q23, .inl (g.2 3, 10, .inr (.inr (.inr (.inr f24))))), (q19, .inr (10, [.ref q23, .int 0, .int 0])), (q1, .inr (11, [.ref q19, w9, w10, w11, w12, w13, w14, w15, w16, w17, w18]))] sz) := by
  refine ofH (by decide) (Nat.le_of_ble_eq_true rfl) rfl ?_
  intro p e s m args below meth c A ls hAe hsz hx hb hml hr hlocks hin hown hE hP hD hA hS hl htb hz
  have hown : s.vm.findClass RL = some m.cls := hown
  refine lv_aload_n hx hb dL_setTempo_0 rfl (lv_at hl 3 rfl) ?_
  refine lv_iconst (v := 0) hx hb dL_setTempo_1 (by decide) ?_
  refine lv_aload_n hx hb dL_setTempo_2 rfl (lv_at hl 0 rfl) ?_
  refine lv_iload_n hx hb dL_setTempo_3 rfl (lv_at hl 1 rfl) ?_
  refine lv_iload_n hx hb dL_setTempo_4 rfl (lv_at hl 2 rfl) ?_
  refine gx_i (wr := [(q39, .inl (g.2 0, 20, .inl f75)), (q50, .inl (g.2 0, 20, .inl f75)), (q38, .inl (g.2 0, 60, .inl f59)), (q49, .inl (g.2 0, 60, .inl f59)), (q73, .inl (g.2 0, 10, .inl f74)), (q67, .inl (g.2 0, 10, .inl f74)), (q72, .inl (g.2 0, 10, .inl f59)), (q66, .inl (g.2 0, 10, .inl f59)), (q37, .inr (9, [.ref q72, .ref q73, w70, w71])), (q48, .inr (9, [.ref q66, .ref q67, .int 1, .int 0])), (q58, .inl (g.2 0, 40, .inl f61)), (q54, .inl (g.2 0, 40, .inl f61)), (q57, .inl (g.2 0, 384, .inl f59)), (q53, .inl (g.2 0, 384, .inl f59)), (q36, .inr (5, [.ref q57, .ref q58])), (q47, .inr (5, [.ref q53, .ref q54])), (q28, .inr (8, [.ref q47, .ref q48, .ref q49, .ref q50, .int 0, .int 4, .int 0])), (q26, .inr (8, [.ref q36, .ref q37, .ref q38, .ref q39, w33, w34, w35])), (q23, .inl (g.2 3, 10, .inr (.inr (.inr (.inr f24))))), (q19, .inr (10, [.ref q23, .int 0, .int 0])), (q1, .inr (11, [.ref q19, w9, w10, w11, w12, w13, w14, w15, w16, w17, w18]))]) (rVx (rest := [.int 0, .ref q4]) hx hb hml hown hE hP hD hS hA hz 20 rfl rfl (c1723_X9_setTempo l g hlx q1 x2 x3 h5 h6 h7 h76 s.heap.size) (kV_X9_setTempo hE (e904 hE) rfl rfl ⟨(Nat.le_of_ble_eq_true rfl), (Nat.le_of_ble_eq_true rfl)⟩) [] rfl (by decide) rfl hl.1 rfl (lv_room (Nat.le_of_ble_eq_true rfl)) dL_setTempo_5 ⟨(Nat.le_of_ble_eq_true rfl), (Nat.le_of_ble_eq_true rfl)⟩) hP hD hS hA [] [0, 1, 2, 3, 4, 5, 6, 7, 8, 9, 10, 11, 12, 13, 14, 15, 16, 17, 18, 19, 20] rfl rfl (by decide) (by decide) (fun ce9 q9 H locs hP hD hS hq1 hq2 hq3 => ?_)
  have hP : va_P g.1 vwCl [(q39, .inl (g.2 0, 20, .inl f75)), (q50, .inl (g.2 0, 20, .inl f75)), (q38, .inl (g.2 0, 60, .inl f59)), (q49, .inl (g.2 0, 60, .inl f59)), (q73, .inl (g.2 0, 10, .inl f74)), (q67, .inl (g.2 0, 10, .inl f74)), (q72, .inl (g.2 0, 10, .inl f59)), (q66, .inl (g.2 0, 10, .inl f59)), (q37, .inr (9, [.ref q72, .ref q73, w70, w71])), (q48, .inr (9, [.ref q66, .ref q67, .int 1, .int 0])), (q58, .inl (g.2 0, 40, .inl f61)), (q54, .inl (g.2 0, 40, .inl f61)), (q57, .inl (g.2 0, 384, .inl f59)), (q53, .inl (g.2 0, 384, .inl f59)), (q36, .inr (5, [.ref q57, .ref q58])), (q47, .inr (5, [.ref q53, .ref q54])), (q28, .inr (8, [.ref q47, .ref q48, .ref q49, .ref q50, .int 0, .int 4, .int 0])), (q26, .inr (8, [.ref q36, .ref q37, .ref q38, .ref q39, w33, w34, w35])), (q23, .inl (g.2 3, 10, .inr (.inr (.inr (.inr f24))))), (q19, .inr (10, [.ref q23, .int 0, .int 0])), (q1, .inr (11, [.ref q19, w9, w10, w11, w12, w13, w14, w15, w16, w17, w18]))] H := hP
  have hD : va_D A [(q39, .inl (g.2 0, 20, .inl f75)), (q50, .inl (g.2 0, 20, .inl f75)), (q38, .inl (g.2 0, 60, .inl f59)), (q49, .inl (g.2 0, 60, .inl f59)), (q73, .inl (g.2 0, 10, .inl f74)), (q67, .inl (g.2 0, 10, .inl f74)), (q72, .inl (g.2 0, 10, .inl f59)), (q66, .inl (g.2 0, 10, .inl f59)), (q37, .inr (9, [.ref q72, .ref q73, w70, w71])), (q48, .inr (9, [.ref q66, .ref q67, .int 1, .int 0])), (q58, .inl (g.2 0, 40, .inl f61)), (q54, .inl (g.2 0, 40, .inl f61)), (q57, .inl (g.2 0, 384, .inl f59)), (q53, .inl (g.2 0, 384, .inl f59)), (q36, .inr (5, [.ref q57, .ref q58])), (q47, .inr (5, [.ref q53, .ref q54])), (q28, .inr (8, [.ref q47, .ref q48, .ref q49, .ref q50, .int 0, .int 4, .int 0])), (q26, .inr (8, [.ref q36, .ref q37, .ref q38, .ref q39, w33, w34, w35])), (q23, .inl (g.2 3, 10, .inr (.inr (.inr (.inr f24))))), (q19, .inr (10, [.ref q23, .int 0, .int 0])), (q1, .inr (11, [.ref q19, w9, w10, w11, w12, w13, w14, w15, w16, w17, w18]))] := hD
  refine x_catch (name := "java/lang/IllegalArgumentException") (hh := [(0, 10, 13, 15), (0, 10, 17, 17)]) (tgt := 13) hown htb [] ⟨0, 10, 13, 15⟩ [⟨0, 10, 17, 17⟩] rfl (fun _ h => nomatch h) rfl (by decide) (e611 hE) (e641 hE) hq1 hq2 hq3 rfl ?_
  refine lv_astore (lv' := [(4, .ref q9), (0, .ref q1), (1, .int x2), (2, .int x3), (3, .ref q4)]) hx hb dL_setTempo_13 hl (by decide) rfl (fun ls hl => ?_)
  refine lv_iconst (v := 1) hx hb dL_setTempo_15 (by decide) ?_
  exact x_zret hx hb hr rfl rfl hlocks hP hD hS hAe hsz (Nat.le_of_ble_eq_true rfl) (Nat.le_of_ble_eq_true rfl) (fun _ => 0) [] (by decide) rfl dL_setTempo_16

set_option maxHeartbeats 4000000 in
set_option maxRecDepth 100000 in
theorem c1725_X10_in (l : Launch) (g : gG) (x1 : Int32) (h2 : (1 : Int32) ≤ x1) (h3 : (1000 : Int32) < x1) (sz : Nat) : Met l yX10_in [Cond.code yX10_in cX10_in 3 (some .boolean)] ({ frames := 0, cells := 0, slots := 0, locals := 0 } : Room) (va_Pc [.int x1, .int 1, .int 1000] (PX g sz [])) (QI g [] sz 0 (fun _ => [])) 0 0 (va_A [] sz) := by
  refine ofN (by decide) (Nat.le_of_ble_eq_true rfl) rfl ?_
  intro p e s m args below meth c A ls hAe hsz hx hb hml hr hlocks hin hown hE hP hD hA hS hl
  have hown : s.vm.findClass RX10 = some m.cls := hown
  refine lv_iload_n hx hb dX10_in_0 rfl (lv_at hl 0 rfl) ?_
  refine lv_iload_n hx hb dX10_in_1 rfl (lv_at hl 1 rfl) ?_
  refine lv_icmp_lt (tgt := 14) hx hb dX10_in_2 (by decide) (fun h => absurd h (i_nlt h2)) (fun _ => ?_)
  refine lv_iload_n hx hb dX10_in_5 rfl (lv_at hl 0 rfl) ?_
  refine lv_iload_n hx hb dX10_in_6 rfl (lv_at hl 2 rfl) ?_
  refine lv_icmp_gt (tgt := 14) hx hb dX10_in_7 (by decide) (fun _ => ?_) (fun h => absurd h3 h)
  refine lv_iconst (v := 0) hx hb dX10_in_14 (by decide) ?_
  exact x_zret hx hb hr rfl rfl hlocks hP hD hS hAe hsz (Nat.le_of_ble_eq_true rfl) (Nat.le_of_ble_eq_true rfl) (fun _ => 0) [] (by decide) rfl dX10_in_15

set_option maxHeartbeats 4000000 in
set_option maxRecDepth 100000 in
theorem c1726_X10_setTempo (l : Launch) (g : gG) (q1 : Nat) (x2 x3 : Int32) (w4 w5 w6 w7 w8 w9 w10 w11 w12 w13 w14 w15 w16 w17 w18 w19 w20 w21 w22 w23 w24 w25 w26 w27 w28 w29 w30 w31 w32 w33 w34 w35 w36 w37 w38 w39 w40 : Value) (h41 : (0 : Int32) ≤ x2) (h42 : x2 ≤ 30000) (h43 : (1 : Int32) ≤ x3) (h44 : (1000 : Int32) < x3) (sz : Nat) : Met l yX10_setTempo [Cond.code yX10_setTempo cX10_setTempo 6 (some .int)] ({ frames := 1, cells := 0, slots := 0, locals := 22 } : Room) (va_Pc [.ref q1, .int x2, .int x3] (PX g sz [(q1, .inr (12, [w4, w5, w6, w7, w8, w9, w10, w11, w12, w13, w14, w15, w16, w17, w18, w19, w20, w21, w22, w23, w24, w25, w26, w27, w28, w29, w30, w31, w32, w33, w34, w35, w36, w37, w38, w39, w40]))])) (QI g [(q1, .inr (12, [w4, w5, w6, w7, w8, w9, w10, w11, w12, w13, w14, w15, w16, w17, w18, w19, w20, w21, w22, w23, w24, w25, w26, w27, w28, w29, w30, w31, w32, w33, w34, w35, w36, w37, w38, w39, w40]))] sz 0 (fun _ => [(q1, .inr (12, [w4, w5, w6, w7, w8, w9, .int 1, w11, w12, w13, w14, w15, w16, w17, w18, w19, w20, w21, w22, w23, w24, w25, w26, w27, w28, w29, w30, w31, w32, w33, w34, w35, w36, w37, w38, w39, w40]))])) 0 0 (va_A [(q1, .inr (12, [w4, w5, w6, w7, w8, w9, w10, w11, w12, w13, w14, w15, w16, w17, w18, w19, w20, w21, w22, w23, w24, w25, w26, w27, w28, w29, w30, w31, w32, w33, w34, w35, w36, w37, w38, w39, w40]))] sz) := by
  refine ofN (by decide) (Nat.le_of_ble_eq_true rfl) rfl ?_
  intro p e s m args below meth c A ls hAe hsz hx hb hml hr hlocks hin hown hE hP hD hA hS hl
  have hown : s.vm.findClass RX10 = some m.cls := hown
  refine lv_aload_n hx hb dX10_setTempo_0 rfl (lv_at hl 0 rfl) ?_
  refine lv_iconst (v := 0) hx hb dX10_setTempo_1 (by decide) ?_
  refine pf_RX10_86 (ws' := [(q1, .inr (12, [w4, w5, w6, w7, w8, w9, .int 0, w11, w12, w13, w14, w15, w16, w17, w18, w19, w20, w21, w22, w23, w24, w25, w26, w27, w28, w29, w30, w31, w32, w33, w34, w35, w36, w37, w38, w39, w40]))]) hx hb hown hE hP hD hS 0 rfl rfl rfl (Nat.le_of_ble_eq_true rfl) dX10_setTempo_2 rfl (fun H locs hP hD hS => ?_)
  refine lv_iload_n hx hb dX10_setTempo_5 rfl (lv_at hl 1 rfl) ?_
  refine lv_iconst (v := 0) hx hb dX10_setTempo_6 (by decide) ?_
  refine lv_sipush (v := 30000) hx hb dX10_setTempo_7 (by decide) ?_
  refine g0_i (rS (rest := []) hx hb hml hown hE hP hD (c1703_X10_in l g x2 h41 h42 H.size) (kS_X10_in hE (e1431 hE) rfl rfl ⟨(Nat.le_of_ble_eq_true rfl), (Nat.le_of_ble_eq_true rfl)⟩) [] rfl (by decide) rfl hl.1 rfl (lv_room (Nat.le_of_ble_eq_true rfl)) dX10_setTempo_10 ⟨(Nat.le_of_ble_eq_true rfl), (Nat.le_of_ble_eq_true rfl)⟩) hP hD hS hA (fun u9 H locs hP hS => ?_)
  refine lv_if_eq (tgt := 27) hx hb dX10_setTempo_13 (by decide) (fun h => absurd h (by decide)) (fun _ => ?_)
  refine lv_iload_n hx hb dX10_setTempo_16 rfl (lv_at hl 2 rfl) ?_
  refine lv_iconst (v := 1) hx hb dX10_setTempo_17 (by decide) ?_
  refine lv_sipush (v := 1000) hx hb dX10_setTempo_18 (by decide) ?_
  refine g0_i (rS (rest := []) hx hb hml hown hE hP hD (c1725_X10_in l g x3 h43 h44 H.size) (kS_X10_in hE (e1431 hE) rfl rfl ⟨(Nat.le_of_ble_eq_true rfl), (Nat.le_of_ble_eq_true rfl)⟩) [] rfl (by decide) rfl hl.1 rfl (lv_room (Nat.le_of_ble_eq_true rfl)) dX10_setTempo_21 ⟨(Nat.le_of_ble_eq_true rfl), (Nat.le_of_ble_eq_true rfl)⟩) hP hD hS hA (fun u9 H locs hP hS => ?_)
  refine lv_if_ne (tgt := 33) hx hb dX10_setTempo_24 (by decide) (fun h => absurd h (by decide)) (fun _ => ?_)
  refine lv_aload_n hx hb dX10_setTempo_27 rfl (lv_at hl 0 rfl) ?_
  refine lv_iconst (v := 1) hx hb dX10_setTempo_28 (by decide) ?_
  refine g_i (wr := []) (rV (rest := []) hx hb hml hown hE hP hD 0 rfl rfl (c1475_X10_refuse l g q1 w4 w5 w6 w7 w8 w9 (.int 0) w11 w12 w13 w14 w15 w16 w17 w18 w19 w20 w21 w22 w23 w24 w25 w26 w27 w28 w29 w30 w31 w32 w33 w34 w35 w36 w37 w38 w39 w40 H.size) (kV_X10_refuse hE (e1474 hE) rfl rfl ⟨(Nat.le_of_ble_eq_true rfl), (Nat.le_of_ble_eq_true rfl)⟩) [0] rfl (by decide) rfl hl.1 rfl (lv_room (Nat.le_of_ble_eq_true rfl)) dX10_setTempo_29 ⟨(Nat.le_of_ble_eq_true rfl), (Nat.le_of_ble_eq_true rfl)⟩) hP hD hS hA [0] [] rfl rfl (by decide) (by decide) (fun u3 H locs hP hD hS => ?_)
  have hP : va_P g.1 vwCl [(q1, .inr (12, [w4, w5, w6, w7, w8, w9, .int 1, w11, w12, w13, w14, w15, w16, w17, w18, w19, w20, w21, w22, w23, w24, w25, w26, w27, w28, w29, w30, w31, w32, w33, w34, w35, w36, w37, w38, w39, w40]))] H := hP
  have hD : va_D A [(q1, .inr (12, [w4, w5, w6, w7, w8, w9, .int 1, w11, w12, w13, w14, w15, w16, w17, w18, w19, w20, w21, w22, w23, w24, w25, w26, w27, w28, w29, w30, w31, w32, w33, w34, w35, w36, w37, w38, w39, w40]))] := hD
  exact x_zret hx hb hr rfl rfl hlocks hP hD hS hAe hsz (Nat.le_of_ble_eq_true rfl) (Nat.le_of_ble_eq_true rfl) (fun _ => 0) [0] (by decide) rfl dX10_setTempo_32

set_option maxHeartbeats 4000000 in
set_option maxRecDepth 100000 in
theorem c1727_X9_requireRange (l : Launch) (g : gG) (hlx : l.stackTraces = false) (x1 : Int32) (h2 : (0 : Int32) ≤ x1) (h3 : (30000 : Int32) < x1) (sz : Nat) : vx_Met l yX9_requireRange [Cond.code yX9_requireRange cX9_requireRange 3 none] ({ frames := 6, cells := 1, slots := 6, locals := 100 } : Room) (va_Pc [.int x1, .int 0, .int 30000] (PZ g sz [])) NV (XW g [] sz "java/lang/IllegalArgumentException" []) 1 6 (va_A [] sz) := by
  refine ofX (by decide) (Nat.le_of_ble_eq_true rfl) rfl ?_
  intro p e s m args below meth c A ls hAe hsz hx hb hml hr hlocks hin hown hE hP hD hA hS hl hex hz
  have hown : s.vm.findClass RX9 = some m.cls := hown
  refine lv_iload_n hx hb dX9_requireRange_0 rfl (lv_at hl 0 rfl) ?_
  refine lv_iload_n hx hb dX9_requireRange_1 rfl (lv_at hl 1 rfl) ?_
  refine lv_icmp_lt (tgt := 10) hx hb dX9_requireRange_2 (by decide) (fun h => absurd h (i_nlt h2)) (fun _ => ?_)
  refine lv_iload_n hx hb dX9_requireRange_5 rfl (lv_at hl 0 rfl) ?_
  refine lv_iload_n hx hb dX9_requireRange_6 rfl (lv_at hl 2 rfl) ?_
  refine lv_icmp_le (tgt := 21) hx hb dX9_requireRange_7 (by decide) (fun h => absurd h (i_nle h3)) (fun _ => ?_)
  exact x_throwW (text := "a number is out of range") (names := ["java/lang/RuntimeException", "java/lang/Exception"]) hx hb hlx hown hE (by decide) (by decide) (e639 hE) (e20 hE) (by decide +kernel) (th_215 hE) tg_215_211 hz (by rw [hml]; exact hl.1) dX9_requireRange_10 dX9_requireRange_13 dX9_requireRange_14 dX9_requireRange_17 dX9_requireRange_20 hex (Nat.le_of_ble_eq_true rfl) (Nat.le_of_ble_eq_true rfl) (Nat.le_of_ble_eq_true rfl) (Nat.le_of_ble_eq_true rfl) hlocks hP hD hS hAe hsz (Nat.le_of_ble_eq_true rfl) (Nat.le_of_ble_eq_true rfl) [] (by decide) rfl

set_option maxHeartbeats 4000000 in
set_option maxRecDepth 100000 in
theorem c1728_X9_setTempo (l : Launch) (g : gG) (hlx : l.stackTraces = false) (q1 : Nat) (x2 x3 : Int32) (h4 : (0 : Int32) ≤ x2) (h5 : (30000 : Int32) < x2) (sz : Nat) : vx_Met l yX9_setTempo [Cond.code yX9_setTempo cX9_setTempo 5 (some .int)] ({ frames := 7, cells := 1, slots := 6, locals := 122 } : Room) (va_Pc [.ref q1, .int x2, .int x3] (PZ g sz [])) NI (XW g [] sz "java/lang/IllegalArgumentException" []) 1 6 (va_A [] sz) := by
  refine ofX (by decide) (Nat.le_of_ble_eq_true rfl) rfl ?_
  intro p e s m args below meth c A ls hAe hsz hx hb hml hr hlocks hin hown hE hP hD hA hS hl hex hz
  have hown : s.vm.findClass RX9 = some m.cls := hown
  refine lv_iload_n hx hb dX9_setTempo_0 rfl (lv_at hl 1 rfl) ?_
  refine lv_iconst (v := 0) hx hb dX9_setTempo_1 (by decide) ?_
  refine lv_sipush (v := 30000) hx hb dX9_setTempo_2 (by decide) ?_
  refine gx_v (wr := []) (rSx (rest := []) hx hb hml hown hE hP hD hS hA hz (c1727_X9_requireRange l g hlx x2 h4 h5 s.heap.size) (kS_X9_requireRange hE (e636 hE) rfl rfl ⟨(Nat.le_of_ble_eq_true rfl), (Nat.le_of_ble_eq_true rfl)⟩) [] rfl (by decide) rfl hl.1 rfl (lv_room (Nat.le_of_ble_eq_true rfl)) dX9_setTempo_5 ⟨(Nat.le_of_ble_eq_true rfl), (Nat.le_of_ble_eq_true rfl)⟩) hP hD hS hA [] [] rfl rfl (by decide) (by decide) (fun ce9 q9 H locs hP hD hS hq1 hq2 hq3 => ?_)
  exact x_out hex hlocks hq1 hq2 hq3 hP hD hS hAe hsz (Nat.le_of_ble_eq_true rfl) (Nat.le_of_ble_eq_true rfl) [] (by decide) rfl

set_option maxHeartbeats 4000000 in
set_option maxRecDepth 100000 in
theorem c1729_L_setTempo (l : Launch) (g : gG) (hlx : l.stackTraces = false) (q1 q4 q18 q22 q25 q27 q35 q36 q37 q38 q46 q47 q48 q49 q52 q53 q56 q57 q65 q66 q71 q72 : Nat) (x2 x3 : Int32) (w8 w9 w10 w11 w12 w13 w14 w15 w16 w17 w32 w33 w34 w69 w70 : Value) (f23 : Nat → Option Nat) (f58 : Nat → Int32) (f60 : Nat → Int32) (f73 : Nat → Int32) (f74 : Nat → Int32) (hf24 : f23 1 = some q25) (hf26 : f23 0 = some q27) (hf59 : f58 0 = 0) (h5 : (0 : Int32) ≤ x2) (h6 : (30000 : Int32) < x2) (sz : Nat) : Met l yL_setTempo [Cond.codeWith yL_setTempo cL_setTempo 5 (some .int) [(0, 10, 13, 15), (0, 10, 17, 17)]] ({ frames := 8, cells := 1, slots := 6, locals := 146 } : Room) (va_Pc [.ref q1, .int x2, .int x3, .ref q4] (PZ g sz [(q38, .inl (g.2 0, 20, .inl f74)), (q49, .inl (g.2 0, 20, .inl f74)), (q37, .inl (g.2 0, 60, .inl f58)), (q48, .inl (g.2 0, 60, .inl f58)), (q72, .inl (g.2 0, 10, .inl f73)), (q66, .inl (g.2 0, 10, .inl f73)), (q71, .inl (g.2 0, 10, .inl f58)), (q65, .inl (g.2 0, 10, .inl f58)), (q36, .inr (9, [.ref q71, .ref q72, w69, w70])), (q47, .inr (9, [.ref q65, .ref q66, .int 1, .int 0])), (q57, .inl (g.2 0, 40, .inl f60)), (q53, .inl (g.2 0, 40, .inl f60)), (q56, .inl (g.2 0, 384, .inl f58)), (q52, .inl (g.2 0, 384, .inl f58)), (q35, .inr (5, [.ref q56, .ref q57])), (q46, .inr (5, [.ref q52, .ref q53])), (q27, .inr (8, [.ref q46, .ref q47, .ref q48, .ref q49, .int 0, .int 4, .int 0])), (q25, .inr (8, [.ref q35, .ref q36, .ref q37, .ref q38, w32, w33, w34])), (q22, .inl (g.2 3, 10, .inr (.inr (.inr (.inr f23))))), (q18, .inr (10, [.ref q22, .int 0, .int 0])), (q1, .inr (11, [.ref q18, w8, w9, w10, w11, w12, w13, w14, w15, w16, w17]))])) (QI g [(q38, .inl (g.2 0, 20, .inl f74)), (q49, .inl (g.2 0, 20, .inl f74)), (q37, .inl (g.2 0, 60, .inl f58)), (q48, .inl (g.2 0, 60, .inl f58)), (q72, .inl (g.2 0, 10, .inl f73)), (q66, .inl (g.2 0, 10, .inl f73)), (q71, .inl (g.2 0, 10, .inl f58)), (q65, .inl (g.2 0, 10, .inl f58)), (q36, .inr (9, [.ref q71, .ref q72, w69, w70])), (q47, .inr (9, [.ref q65, .ref q66, .int 1, .int 0])), (q57, .inl (g.2 0, 40, .inl f60)), (q53, .inl (g.2 0, 40, .inl f60)), (q56, .inl (g.2 0, 384, .inl f58)), (q52, .inl (g.2 0, 384, .inl f58)), (q35, .inr (5, [.ref q56, .ref q57])), (q46, .inr (5, [.ref q52, .ref q53])), (q27, .inr (8, [.ref q46, .ref q47, .ref q48, .ref q49, .int 0, .int 4, .int 0])), (q25, .inr (8, [.ref q35, .ref q36, .ref q37, .ref q38, w32, w33, w34])), (q22, .inl (g.2 3, 10, .inr (.inr (.inr (.inr f23))))), (q18, .inr (10, [.ref q22, .int 0, .int 0])), (q1, .inr (11, [.ref q18, w8, w9, w10, w11, w12, w13, w14, w15, w16, w17]))] sz 1 (fun _ => [])) 1 6 (va_A [(q38, .inl (g.2 0, 20, .inl f74)), (q49, .inl (g.2 0, 20, .inl f74)), (q37, .inl (g.2 0, 60, .inl f58)), (q48, .inl (g.2 0, 60, .inl f58)), (q72, .inl (g.2 0, 10, .inl f73)), (q66, .inl (g.2 0, 10, .inl f73)), (q71, .inl (g.2 0, 10, .inl f58)), (q65, .inl (g.2 0, 10, .inl f58)), (q36, .inr (9, [.ref q71, .ref q72, w69, w70])), (q47, .inr (9, [.ref q65, .ref q66, .int 1, .int 0])), (q57, .inl (g.2 0, 40, .inl f60)), (q53, .inl (g.2 0, 40, .inl f60)), (q56, .inl (g.2 0, 384, .inl f58)), (q52, .inl (g.2 0, 384, .inl f58)), (q35, .inr (5, [.ref q56, .ref q57])), (q46, .inr (5, [.ref q52, .ref q53])), (q27, .inr (8, [.ref q46, .ref q47, .ref q48, .ref q49, .int 0, .int 4, .int 0])), (q25, .inr (8, [.ref q35, .ref q36, .ref q37, .ref q38, w32, w33, w34])), (q22, .inl (g.2 3, 10, .inr (.inr (.inr (.inr f23))))), (q18, .inr (10, [.ref q22, .int 0, .int 0])), (q1, .inr (11, [.ref q18, w8, w9, w10, w11, w12, w13, w14, w15, w16, w17]))] sz) := by
  refine ofH (by decide) (Nat.le_of_ble_eq_true rfl) rfl ?_
  intro p e s m args below meth c A ls hAe hsz hx hb hml hr hlocks hin hown hE hP hD hA hS hl htb hz
  have hown : s.vm.findClass RL = some m.cls := hown
  refine lv_aload_n hx hb dL_setTempo_0 rfl (lv_at hl 3 rfl) ?_
  refine lv_iconst (v := 0) hx hb dL_setTempo_1 (by decide) ?_
  refine lv_aload_n hx hb dL_setTempo_2 rfl (lv_at hl 0 rfl) ?_
  refine lv_iload_n hx hb dL_setTempo_3 rfl (lv_at hl 1 rfl) ?_
  refine lv_iload_n hx hb dL_setTempo_4 rfl (lv_at hl 2 rfl) ?_
  refine gx_i (wr := [(q38, .inl (g.2 0, 20, .inl f74)), (q49, .inl (g.2 0, 20, .inl f74)), (q37, .inl (g.2 0, 60, .inl f58)), (q48, .inl (g.2 0, 60, .inl f58)), (q72, .inl (g.2 0, 10, .inl f73)), (q66, .inl (g.2 0, 10, .inl f73)), (q71, .inl (g.2 0, 10, .inl f58)), (q65, .inl (g.2 0, 10, .inl f58)), (q36, .inr (9, [.ref q71, .ref q72, w69, w70])), (q47, .inr (9, [.ref q65, .ref q66, .int 1, .int 0])), (q57, .inl (g.2 0, 40, .inl f60)), (q53, .inl (g.2 0, 40, .inl f60)), (q56, .inl (g.2 0, 384, .inl f58)), (q52, .inl (g.2 0, 384, .inl f58)), (q35, .inr (5, [.ref q56, .ref q57])), (q46, .inr (5, [.ref q52, .ref q53])), (q27, .inr (8, [.ref q46, .ref q47, .ref q48, .ref q49, .int 0, .int 4, .int 0])), (q25, .inr (8, [.ref q35, .ref q36, .ref q37, .ref q38, w32, w33, w34])), (q22, .inl (g.2 3, 10, .inr (.inr (.inr (.inr f23))))), (q18, .inr (10, [.ref q22, .int 0, .int 0])), (q1, .inr (11, [.ref q18, w8, w9, w10, w11, w12, w13, w14, w15, w16, w17]))]) (rVx (rest := [.int 0, .ref q4]) hx hb hml hown hE hP hD hS hA hz 20 rfl rfl (c1728_X9_setTempo l g hlx q1 x2 x3 h5 h6 s.heap.size) (kV_X9_setTempo hE (e904 hE) rfl rfl ⟨(Nat.le_of_ble_eq_true rfl), (Nat.le_of_ble_eq_true rfl)⟩) [] rfl (by decide) rfl hl.1 rfl (lv_room (Nat.le_of_ble_eq_true rfl)) dL_setTempo_5 ⟨(Nat.le_of_ble_eq_true rfl), (Nat.le_of_ble_eq_true rfl)⟩) hP hD hS hA [] [0, 1, 2, 3, 4, 5, 6, 7, 8, 9, 10, 11, 12, 13, 14, 15, 16, 17, 18, 19, 20] rfl rfl (by decide) (by decide) (fun ce9 q9 H locs hP hD hS hq1 hq2 hq3 => ?_)
  have hP : va_P g.1 vwCl [(q38, .inl (g.2 0, 20, .inl f74)), (q49, .inl (g.2 0, 20, .inl f74)), (q37, .inl (g.2 0, 60, .inl f58)), (q48, .inl (g.2 0, 60, .inl f58)), (q72, .inl (g.2 0, 10, .inl f73)), (q66, .inl (g.2 0, 10, .inl f73)), (q71, .inl (g.2 0, 10, .inl f58)), (q65, .inl (g.2 0, 10, .inl f58)), (q36, .inr (9, [.ref q71, .ref q72, w69, w70])), (q47, .inr (9, [.ref q65, .ref q66, .int 1, .int 0])), (q57, .inl (g.2 0, 40, .inl f60)), (q53, .inl (g.2 0, 40, .inl f60)), (q56, .inl (g.2 0, 384, .inl f58)), (q52, .inl (g.2 0, 384, .inl f58)), (q35, .inr (5, [.ref q56, .ref q57])), (q46, .inr (5, [.ref q52, .ref q53])), (q27, .inr (8, [.ref q46, .ref q47, .ref q48, .ref q49, .int 0, .int 4, .int 0])), (q25, .inr (8, [.ref q35, .ref q36, .ref q37, .ref q38, w32, w33, w34])), (q22, .inl (g.2 3, 10, .inr (.inr (.inr (.inr f23))))), (q18, .inr (10, [.ref q22, .int 0, .int 0])), (q1, .inr (11, [.ref q18, w8, w9, w10, w11, w12, w13, w14, w15, w16, w17]))] H := hP
  have hD : va_D A [(q38, .inl (g.2 0, 20, .inl f74)), (q49, .inl (g.2 0, 20, .inl f74)), (q37, .inl (g.2 0, 60, .inl f58)), (q48, .inl (g.2 0, 60, .inl f58)), (q72, .inl (g.2 0, 10, .inl f73)), (q66, .inl (g.2 0, 10, .inl f73)), (q71, .inl (g.2 0, 10, .inl f58)), (q65, .inl (g.2 0, 10, .inl f58)), (q36, .inr (9, [.ref q71, .ref q72, w69, w70])), (q47, .inr (9, [.ref q65, .ref q66, .int 1, .int 0])), (q57, .inl (g.2 0, 40, .inl f60)), (q53, .inl (g.2 0, 40, .inl f60)), (q56, .inl (g.2 0, 384, .inl f58)), (q52, .inl (g.2 0, 384, .inl f58)), (q35, .inr (5, [.ref q56, .ref q57])), (q46, .inr (5, [.ref q52, .ref q53])), (q27, .inr (8, [.ref q46, .ref q47, .ref q48, .ref q49, .int 0, .int 4, .int 0])), (q25, .inr (8, [.ref q35, .ref q36, .ref q37, .ref q38, w32, w33, w34])), (q22, .inl (g.2 3, 10, .inr (.inr (.inr (.inr f23))))), (q18, .inr (10, [.ref q22, .int 0, .int 0])), (q1, .inr (11, [.ref q18, w8, w9, w10, w11, w12, w13, w14, w15, w16, w17]))] := hD
  refine x_catch (name := "java/lang/IllegalArgumentException") (hh := [(0, 10, 13, 15), (0, 10, 17, 17)]) (tgt := 13) hown htb [] ⟨0, 10, 13, 15⟩ [⟨0, 10, 17, 17⟩] rfl (fun _ h => nomatch h) rfl (by decide) (e611 hE) (e641 hE) hq1 hq2 hq3 rfl ?_
  refine lv_astore (lv' := [(4, .ref q9), (0, .ref q1), (1, .int x2), (2, .int x3), (3, .ref q4)]) hx hb dL_setTempo_13 hl (by decide) rfl (fun ls hl => ?_)
  refine lv_iconst (v := 1) hx hb dL_setTempo_15 (by decide) ?_
  exact x_zret hx hb hr rfl rfl hlocks hP hD hS hAe hsz (Nat.le_of_ble_eq_true rfl) (Nat.le_of_ble_eq_true rfl) (fun _ => 0) [] (by decide) rfl dL_setTempo_16

set_option maxHeartbeats 4000000 in
set_option maxRecDepth 100000 in
theorem c1730_X10_in (l : Launch) (g : gG) (x1 : Int32) (h2 : (0 : Int32) ≤ x1) (h3 : (30000 : Int32) < x1) (sz : Nat) : Met l yX10_in [Cond.code yX10_in cX10_in 3 (some .boolean)] ({ frames := 0, cells := 0, slots := 0, locals := 0 } : Room) (va_Pc [.int x1, .int 0, .int 30000] (PX g sz [])) (QI g [] sz 0 (fun _ => [])) 0 0 (va_A [] sz) := by
  refine ofN (by decide) (Nat.le_of_ble_eq_true rfl) rfl ?_
  intro p e s m args below meth c A ls hAe hsz hx hb hml hr hlocks hin hown hE hP hD hA hS hl
  have hown : s.vm.findClass RX10 = some m.cls := hown
  refine lv_iload_n hx hb dX10_in_0 rfl (lv_at hl 0 rfl) ?_
  refine lv_iload_n hx hb dX10_in_1 rfl (lv_at hl 1 rfl) ?_
  refine lv_icmp_lt (tgt := 14) hx hb dX10_in_2 (by decide) (fun h => absurd h (i_nlt h2)) (fun _ => ?_)
  refine lv_iload_n hx hb dX10_in_5 rfl (lv_at hl 0 rfl) ?_
  refine lv_iload_n hx hb dX10_in_6 rfl (lv_at hl 2 rfl) ?_
  refine lv_icmp_gt (tgt := 14) hx hb dX10_in_7 (by decide) (fun _ => ?_) (fun h => absurd h3 h)
  refine lv_iconst (v := 0) hx hb dX10_in_14 (by decide) ?_
  exact x_zret hx hb hr rfl rfl hlocks hP hD hS hAe hsz (Nat.le_of_ble_eq_true rfl) (Nat.le_of_ble_eq_true rfl) (fun _ => 0) [] (by decide) rfl dX10_in_15

set_option maxHeartbeats 4000000 in
set_option maxRecDepth 100000 in
theorem c1731_X10_setTempo (l : Launch) (g : gG) (q1 : Nat) (x2 x3 : Int32) (w4 w5 w6 w7 w8 w9 w10 w11 w12 w13 w14 w15 w16 w17 w18 w19 w20 w21 w22 w23 w24 w25 w26 w27 w28 w29 w30 w31 w32 w33 w34 w35 w36 w37 w38 w39 w40 : Value) (h41 : (0 : Int32) ≤ x2) (h42 : (30000 : Int32) < x2) (sz : Nat) : Met l yX10_setTempo [Cond.code yX10_setTempo cX10_setTempo 6 (some .int)] ({ frames := 1, cells := 0, slots := 0, locals := 22 } : Room) (va_Pc [.ref q1, .int x2, .int x3] (PX g sz [(q1, .inr (12, [w4, w5, w6, w7, w8, w9, w10, w11, w12, w13, w14, w15, w16, w17, w18, w19, w20, w21, w22, w23, w24, w25, w26, w27, w28, w29, w30, w31, w32, w33, w34, w35, w36, w37, w38, w39, w40]))])) (QI g [(q1, .inr (12, [w4, w5, w6, w7, w8, w9, w10, w11, w12, w13, w14, w15, w16, w17, w18, w19, w20, w21, w22, w23, w24, w25, w26, w27, w28, w29, w30, w31, w32, w33, w34, w35, w36, w37, w38, w39, w40]))] sz 0 (fun _ => [(q1, .inr (12, [w4, w5, w6, w7, w8, w9, .int 1, w11, w12, w13, w14, w15, w16, w17, w18, w19, w20, w21, w22, w23, w24, w25, w26, w27, w28, w29, w30, w31, w32, w33, w34, w35, w36, w37, w38, w39, w40]))])) 0 0 (va_A [(q1, .inr (12, [w4, w5, w6, w7, w8, w9, w10, w11, w12, w13, w14, w15, w16, w17, w18, w19, w20, w21, w22, w23, w24, w25, w26, w27, w28, w29, w30, w31, w32, w33, w34, w35, w36, w37, w38, w39, w40]))] sz) := by
  refine ofN (by decide) (Nat.le_of_ble_eq_true rfl) rfl ?_
  intro p e s m args below meth c A ls hAe hsz hx hb hml hr hlocks hin hown hE hP hD hA hS hl
  have hown : s.vm.findClass RX10 = some m.cls := hown
  refine lv_aload_n hx hb dX10_setTempo_0 rfl (lv_at hl 0 rfl) ?_
  refine lv_iconst (v := 0) hx hb dX10_setTempo_1 (by decide) ?_
  refine pf_RX10_86 (ws' := [(q1, .inr (12, [w4, w5, w6, w7, w8, w9, .int 0, w11, w12, w13, w14, w15, w16, w17, w18, w19, w20, w21, w22, w23, w24, w25, w26, w27, w28, w29, w30, w31, w32, w33, w34, w35, w36, w37, w38, w39, w40]))]) hx hb hown hE hP hD hS 0 rfl rfl rfl (Nat.le_of_ble_eq_true rfl) dX10_setTempo_2 rfl (fun H locs hP hD hS => ?_)
  refine lv_iload_n hx hb dX10_setTempo_5 rfl (lv_at hl 1 rfl) ?_
  refine lv_iconst (v := 0) hx hb dX10_setTempo_6 (by decide) ?_
  refine lv_sipush (v := 30000) hx hb dX10_setTempo_7 (by decide) ?_
  refine g0_i (rS (rest := []) hx hb hml hown hE hP hD (c1730_X10_in l g x2 h41 h42 H.size) (kS_X10_in hE (e1431 hE) rfl rfl ⟨(Nat.le_of_ble_eq_true rfl), (Nat.le_of_ble_eq_true rfl)⟩) [] rfl (by decide) rfl hl.1 rfl (lv_room (Nat.le_of_ble_eq_true rfl)) dX10_setTempo_10 ⟨(Nat.le_of_ble_eq_true rfl), (Nat.le_of_ble_eq_true rfl)⟩) hP hD hS hA (fun u9 H locs hP hS => ?_)
  refine lv_if_eq (tgt := 27) hx hb dX10_setTempo_13 (by decide) (fun _ => ?_) (fun h => absurd (by decide) h)
  refine lv_aload_n hx hb dX10_setTempo_27 rfl (lv_at hl 0 rfl) ?_
  refine lv_iconst (v := 1) hx hb dX10_setTempo_28 (by decide) ?_
  refine g_i (wr := []) (rV (rest := []) hx hb hml hown hE hP hD 0 rfl rfl (c1475_X10_refuse l g q1 w4 w5 w6 w7 w8 w9 (.int 0) w11 w12 w13 w14 w15 w16 w17 w18 w19 w20 w21 w22 w23 w24 w25 w26 w27 w28 w29 w30 w31 w32 w33 w34 w35 w36 w37 w38 w39 w40 H.size) (kV_X10_refuse hE (e1474 hE) rfl rfl ⟨(Nat.le_of_ble_eq_true rfl), (Nat.le_of_ble_eq_true rfl)⟩) [0] rfl (by decide) rfl hl.1 rfl (lv_room (Nat.le_of_ble_eq_true rfl)) dX10_setTempo_29 ⟨(Nat.le_of_ble_eq_true rfl), (Nat.le_of_ble_eq_true rfl)⟩) hP hD hS hA [0] [] rfl rfl (by decide) (by decide) (fun u2 H locs hP hD hS => ?_)
  have hP : va_P g.1 vwCl [(q1, .inr (12, [w4, w5, w6, w7, w8, w9, .int 1, w11, w12, w13, w14, w15, w16, w17, w18, w19, w20, w21, w22, w23, w24, w25, w26, w27, w28, w29, w30, w31, w32, w33, w34, w35, w36, w37, w38, w39, w40]))] H := hP
  have hD : va_D A [(q1, .inr (12, [w4, w5, w6, w7, w8, w9, .int 1, w11, w12, w13, w14, w15, w16, w17, w18, w19, w20, w21, w22, w23, w24, w25, w26, w27, w28, w29, w30, w31, w32, w33, w34, w35, w36, w37, w38, w39, w40]))] := hD
  exact x_zret hx hb hr rfl rfl hlocks hP hD hS hAe hsz (Nat.le_of_ble_eq_true rfl) (Nat.le_of_ble_eq_true rfl) (fun _ => 0) [0] (by decide) rfl dX10_setTempo_32

set_option maxHeartbeats 4000000 in
set_option maxRecDepth 100000 in
theorem c1732_X9_removeTempo (l : Launch) (g : gG) (hlx : l.stackTraces = false) (q1 q15 q19 q22 q24 q32 q33 q34 q35 q43 q44 q45 q46 q49 q50 q53 q54 q61 q62 q67 q68 : Nat) (x2 : Int32) (w5 w6 w7 w8 w9 w10 w11 w12 w13 w14 w18 w29 w30 w31 w65 w66 : Value) (f20 : Nat → Option Nat) (f55 : Nat → Int32) (f56 : Nat → Int32) (f69 : Nat → Int32) (f70 : Nat → Int32) (hf21 : f20 1 = some q22) (hf23 : f20 0 = some q24) (hf71 : f55 0 = 0) (h3 : ¬ x2 = 0) (sz : Nat) : vx_Met l yX9_removeTempo [Cond.code yX9_removeTempo cX9_removeTempo 4 (some .int)] ({ frames := 6, cells := 1, slots := 6, locals := 148 } : Room) (va_Pc [.ref q1, .int x2] (PZ g sz [(q35, .inl (g.2 0, 20, .inl f70)), (q46, .inl (g.2 0, 20, .inl f70)), (q34, .inl (g.2 0, 60, .inl f55)), (q45, .inl (g.2 0, 60, .inl f55)), (q68, .inl (g.2 0, 10, .inl f69)), (q62, .inl (g.2 0, 10, .inl f69)), (q67, .inl (g.2 0, 10, .inl f55)), (q61, .inl (g.2 0, 10, .inl f55)), (q33, .inr (9, [.ref q67, .ref q68, w65, w66])), (q44, .inr (9, [.ref q61, .ref q62, .int 1, .int 0])), (q54, .inl (g.2 0, 40, .inl f56)), (q50, .inl (g.2 0, 40, .inl f56)), (q53, .inl (g.2 0, 384, .inl f55)), (q49, .inl (g.2 0, 384, .inl f55)), (q32, .inr (5, [.ref q53, .ref q54])), (q43, .inr (5, [.ref q49, .ref q50])), (q24, .inr (8, [.ref q43, .ref q44, .ref q45, .ref q46, .int 0, .int 4, .int 0])), (q22, .inr (8, [.ref q32, .ref q33, .ref q34, .ref q35, w29, w30, w31])), (q19, .inl (g.2 3, 10, .inr (.inr (.inr (.inr f20))))), (q15, .inr (10, [.ref q19, .int 0, w18])), (q1, .inr (11, [.ref q15, w5, w6, w7, w8, w9, w10, w11, w12, w13, w14]))])) NI (XW g [(q35, .inl (g.2 0, 20, .inl f70)), (q46, .inl (g.2 0, 20, .inl f70)), (q34, .inl (g.2 0, 60, .inl f55)), (q45, .inl (g.2 0, 60, .inl f55)), (q68, .inl (g.2 0, 10, .inl f69)), (q62, .inl (g.2 0, 10, .inl f69)), (q67, .inl (g.2 0, 10, .inl f55)), (q61, .inl (g.2 0, 10, .inl f55)), (q33, .inr (9, [.ref q67, .ref q68, w65, w66])), (q44, .inr (9, [.ref q61, .ref q62, .int 1, .int 0])), (q54, .inl (g.2 0, 40, .inl f56)), (q50, .inl (g.2 0, 40, .inl f56)), (q53, .inl (g.2 0, 384, .inl f55)), (q49, .inl (g.2 0, 384, .inl f55)), (q32, .inr (5, [.ref q53, .ref q54])), (q43, .inr (5, [.ref q49, .ref q50])), (q24, .inr (8, [.ref q43, .ref q44, .ref q45, .ref q46, .int 0, .int 4, .int 0])), (q22, .inr (8, [.ref q32, .ref q33, .ref q34, .ref q35, w29, w30, w31])), (q19, .inl (g.2 3, 10, .inr (.inr (.inr (.inr f20))))), (q15, .inr (10, [.ref q19, .int 0, w18])), (q1, .inr (11, [.ref q15, w5, w6, w7, w8, w9, w10, w11, w12, w13, w14]))] sz "java/util/NoSuchElementException" [(q1, .inr (11, [.ref q15, w5, w6, w7, w8, w9, w10, w11, w12, w13, w14])), (q19, .inl (g.2 3, 10, .inr (.inr (.inr (.inr f20))))), (q15, .inr (10, [.ref q19, .int 0, w18])), (q24, .inr (8, [.ref q43, .ref q44, .ref q45, .ref q46, .int 0, .int 4, .int 0])), (q22, .inr (8, [.ref q32, .ref q33, .ref q34, .ref q35, .int 0, .int 4, .int 0])), (q32, .inr (5, [.ref q53, .ref q54])), (q43, .inr (5, [.ref q49, .ref q50])), (q53, .inl (g.2 0, 384, .inl f55)), (q49, .inl (g.2 0, 384, .inl f55)), (q54, .inl (g.2 0, 40, .inl f56)), (q50, .inl (g.2 0, 40, .inl f56)), (q44, .inr (9, [.ref q61, .ref q62, .int 1, .int 0])), (q61, .inl (g.2 0, 10, .inl f55)), (q68, .inl (g.2 0, 10, .inl f69)), (q62, .inl (g.2 0, 10, .inl f69)), (q34, .inl (g.2 0, 60, .inl f55)), (q45, .inl (g.2 0, 60, .inl f55)), (q35, .inl (g.2 0, 20, .inl f70)), (q46, .inl (g.2 0, 20, .inl f70)), (q67, .inl (g.2 0, 10, .inl f55)), (q33, .inr (9, [.ref q67, .ref q68, .int 1, .int 0]))]) 1 6 (va_A [(q35, .inl (g.2 0, 20, .inl f70)), (q46, .inl (g.2 0, 20, .inl f70)), (q34, .inl (g.2 0, 60, .inl f55)), (q45, .inl (g.2 0, 60, .inl f55)), (q68, .inl (g.2 0, 10, .inl f69)), (q62, .inl (g.2 0, 10, .inl f69)), (q67, .inl (g.2 0, 10, .inl f55)), (q61, .inl (g.2 0, 10, .inl f55)), (q33, .inr (9, [.ref q67, .ref q68, w65, w66])), (q44, .inr (9, [.ref q61, .ref q62, .int 1, .int 0])), (q54, .inl (g.2 0, 40, .inl f56)), (q50, .inl (g.2 0, 40, .inl f56)), (q53, .inl (g.2 0, 384, .inl f55)), (q49, .inl (g.2 0, 384, .inl f55)), (q32, .inr (5, [.ref q53, .ref q54])), (q43, .inr (5, [.ref q49, .ref q50])), (q24, .inr (8, [.ref q43, .ref q44, .ref q45, .ref q46, .int 0, .int 4, .int 0])), (q22, .inr (8, [.ref q32, .ref q33, .ref q34, .ref q35, w29, w30, w31])), (q19, .inl (g.2 3, 10, .inr (.inr (.inr (.inr f20))))), (q15, .inr (10, [.ref q19, .int 0, w18])), (q1, .inr (11, [.ref q15, w5, w6, w7, w8, w9, w10, w11, w12, w13, w14]))] sz) := by
  refine ofX (by decide) (Nat.le_of_ble_eq_true rfl) rfl ?_
  intro p e s m args below meth c A ls hAe hsz hx hb hml hr hlocks hin hown hE hP hD hA hS hl hex hz
  have hown : s.vm.findClass RX9 = some m.cls := hown
  refine lv_iload_n hx hb dX9_removeTempo_0 rfl (lv_at hl 1 rfl) ?_
  refine lv_if_ne (tgt := 14) hx hb dX9_removeTempo_1 (by decide) (fun _ => ?_) (fun h => absurd h h3)
  refine lv_aload_n hx hb dX9_removeTempo_14 rfl (lv_at hl 0 rfl) ?_
  refine gf_RX9_12 hx hb hown hE hP 20 rfl rfl dX9_removeTempo_15 ?_
  refine g_r (wr := [(q1, .inr (11, [.ref q15, w5, w6, w7, w8, w9, w10, w11, w12, w13, w14]))]) (rV (rest := []) hx hb hml hown hE hP hD 19 rfl rfl (c127_X8_draft l g q15 q19 q22 q24 q32 q43 q49 q53 q50 q54 q33 q44 q61 q67 q62 q68 q45 q34 q46 q35 w18 w29 w30 w31 w65 w66 f20 f55 f56 f69 f70 (hf21) (hf23) s.heap.size) (kV_X8_draft hE (e659 hE) rfl rfl ⟨(Nat.le_of_ble_eq_true rfl), (Nat.le_of_ble_eq_true rfl)⟩) [0, 1, 2, 3, 4, 5, 6, 7, 8, 9, 10, 11, 12, 13, 14, 15, 16, 17, 18, 19] rfl (by decide) rfl hl.1 rfl (lv_room (Nat.le_of_ble_eq_true rfl)) dX9_removeTempo_18 ⟨(Nat.le_of_ble_eq_true rfl), (Nat.le_of_ble_eq_true rfl)⟩) hP hD hS hA [0, 1, 2, 3, 4, 5, 6, 7, 8, 9, 10, 11, 12, 13, 14, 15, 16, 17, 18, 19] [20] rfl rfl (by decide) (by decide) (fun u1 H locs hP hD hS => ?_)
  have hP : va_P g.1 vwCl [(q1, .inr (11, [.ref q15, w5, w6, w7, w8, w9, w10, w11, w12, w13, w14])), (q19, .inl (g.2 3, 10, .inr (.inr (.inr (.inr f20))))), (q15, .inr (10, [.ref q19, .int 0, w18])), (q24, .inr (8, [.ref q43, .ref q44, .ref q45, .ref q46, .int 0, .int 4, .int 0])), (q22, .inr (8, [.ref q32, .ref q33, .ref q34, .ref q35, .int 0, .int 4, .int 0])), (q32, .inr (5, [.ref q53, .ref q54])), (q43, .inr (5, [.ref q49, .ref q50])), (q53, .inl (g.2 0, 384, .inl f55)), (q49, .inl (g.2 0, 384, .inl f55)), (q54, .inl (g.2 0, 40, .inl f56)), (q50, .inl (g.2 0, 40, .inl f56)), (q33, .inr (9, [.ref q67, .ref q68, .int 1, .int 0])), (q44, .inr (9, [.ref q61, .ref q62, .int 1, .int 0])), (q67, .inl (g.2 0, 10, .inl f55)), (q61, .inl (g.2 0, 10, .inl f55)), (q68, .inl (g.2 0, 10, .inl f69)), (q62, .inl (g.2 0, 10, .inl f69)), (q34, .inl (g.2 0, 60, .inl f55)), (q45, .inl (g.2 0, 60, .inl f55)), (q35, .inl (g.2 0, 20, .inl f70)), (q46, .inl (g.2 0, 20, .inl f70))] H := hP
  have hD : va_D A [(q1, .inr (11, [.ref q15, w5, w6, w7, w8, w9, w10, w11, w12, w13, w14])), (q19, .inl (g.2 3, 10, .inr (.inr (.inr (.inr f20))))), (q15, .inr (10, [.ref q19, .int 0, w18])), (q24, .inr (8, [.ref q43, .ref q44, .ref q45, .ref q46, .int 0, .int 4, .int 0])), (q22, .inr (8, [.ref q32, .ref q33, .ref q34, .ref q35, .int 0, .int 4, .int 0])), (q32, .inr (5, [.ref q53, .ref q54])), (q43, .inr (5, [.ref q49, .ref q50])), (q53, .inl (g.2 0, 384, .inl f55)), (q49, .inl (g.2 0, 384, .inl f55)), (q54, .inl (g.2 0, 40, .inl f56)), (q50, .inl (g.2 0, 40, .inl f56)), (q33, .inr (9, [.ref q67, .ref q68, .int 1, .int 0])), (q44, .inr (9, [.ref q61, .ref q62, .int 1, .int 0])), (q67, .inl (g.2 0, 10, .inl f55)), (q61, .inl (g.2 0, 10, .inl f55)), (q68, .inl (g.2 0, 10, .inl f69)), (q62, .inl (g.2 0, 10, .inl f69)), (q34, .inl (g.2 0, 60, .inl f55)), (q45, .inl (g.2 0, 60, .inl f55)), (q35, .inl (g.2 0, 20, .inl f70)), (q46, .inl (g.2 0, 20, .inl f70))] := hD
  refine lv_astore_n (lv' := [(2, .ref q22), (0, .ref q1), (1, .int x2)]) hx hb dX9_removeTempo_21 rfl hl (by decide) rfl (fun ls hl => ?_)
  refine lv_aload_n hx hb dX9_removeTempo_22 rfl (lv_at hl 0 rfl) ?_
  refine gf_RX9_193 hx hb hown hE hP 4 rfl rfl dX9_removeTempo_23 ?_
  refine lv_iload_n hx hb dX9_removeTempo_26 rfl (lv_at hl 2 rfl) ?_
  refine g_i (wr := [(q1, .inr (11, [.ref q15, w5, w6, w7, w8, w9, w10, w11, w12, w13, w14])), (q19, .inl (g.2 3, 10, .inr (.inr (.inr (.inr f20))))), (q15, .inr (10, [.ref q19, .int 0, w18])), (q24, .inr (8, [.ref q43, .ref q44, .ref q45, .ref q46, .int 0, .int 4, .int 0])), (q22, .inr (8, [.ref q32, .ref q33, .ref q34, .ref q35, .int 0, .int 4, .int 0])), (q32, .inr (5, [.ref q53, .ref q54])), (q43, .inr (5, [.ref q49, .ref q50])), (q53, .inl (g.2 0, 384, .inl f55)), (q49, .inl (g.2 0, 384, .inl f55)), (q54, .inl (g.2 0, 40, .inl f56)), (q50, .inl (g.2 0, 40, .inl f56)), (q44, .inr (9, [.ref q61, .ref q62, .int 1, .int 0])), (q61, .inl (g.2 0, 10, .inl f55)), (q68, .inl (g.2 0, 10, .inl f69)), (q62, .inl (g.2 0, 10, .inl f69)), (q34, .inl (g.2 0, 60, .inl f55)), (q45, .inl (g.2 0, 60, .inl f55)), (q35, .inl (g.2 0, 20, .inl f70)), (q46, .inl (g.2 0, 20, .inl f70))]) (rV (rest := []) hx hb hml hown hE hP hD 11 rfl rfl (c1708_X7_placeAt l g q33 q67 x2 (.ref q68) (.int 0) f55 (hf71) (Ne.symm h3) H.size) (kV_X7_placeAt hE (e908 hE) rfl rfl ⟨(Nat.le_of_ble_eq_true rfl), (Nat.le_of_ble_eq_true rfl)⟩) [13, 11] rfl (by decide) rfl hl.1 rfl (lv_room (Nat.le_of_ble_eq_true rfl)) dX9_removeTempo_27 ⟨(Nat.le_of_ble_eq_true rfl), (Nat.le_of_ble_eq_true rfl)⟩) hP hD hS hA [13, 11] [0, 1, 2, 3, 4, 5, 6, 7, 8, 9, 10, 12, 14, 15, 16, 17, 18, 19, 20] rfl rfl (by decide) (by decide) (fun u2 H locs hP hD hS => ?_)
  have hP : va_P g.1 vwCl [(q1, .inr (11, [.ref q15, w5, w6, w7, w8, w9, w10, w11, w12, w13, w14])), (q19, .inl (g.2 3, 10, .inr (.inr (.inr (.inr f20))))), (q15, .inr (10, [.ref q19, .int 0, w18])), (q24, .inr (8, [.ref q43, .ref q44, .ref q45, .ref q46, .int 0, .int 4, .int 0])), (q22, .inr (8, [.ref q32, .ref q33, .ref q34, .ref q35, .int 0, .int 4, .int 0])), (q32, .inr (5, [.ref q53, .ref q54])), (q43, .inr (5, [.ref q49, .ref q50])), (q53, .inl (g.2 0, 384, .inl f55)), (q49, .inl (g.2 0, 384, .inl f55)), (q54, .inl (g.2 0, 40, .inl f56)), (q50, .inl (g.2 0, 40, .inl f56)), (q44, .inr (9, [.ref q61, .ref q62, .int 1, .int 0])), (q61, .inl (g.2 0, 10, .inl f55)), (q68, .inl (g.2 0, 10, .inl f69)), (q62, .inl (g.2 0, 10, .inl f69)), (q34, .inl (g.2 0, 60, .inl f55)), (q45, .inl (g.2 0, 60, .inl f55)), (q35, .inl (g.2 0, 20, .inl f70)), (q46, .inl (g.2 0, 20, .inl f70)), (q67, .inl (g.2 0, 10, .inl f55)), (q33, .inr (9, [.ref q67, .ref q68, .int 1, .int 0]))] H := hP
  have hD : va_D A [(q1, .inr (11, [.ref q15, w5, w6, w7, w8, w9, w10, w11, w12, w13, w14])), (q19, .inl (g.2 3, 10, .inr (.inr (.inr (.inr f20))))), (q15, .inr (10, [.ref q19, .int 0, w18])), (q24, .inr (8, [.ref q43, .ref q44, .ref q45, .ref q46, .int 0, .int 4, .int 0])), (q22, .inr (8, [.ref q32, .ref q33, .ref q34, .ref q35, .int 0, .int 4, .int 0])), (q32, .inr (5, [.ref q53, .ref q54])), (q43, .inr (5, [.ref q49, .ref q50])), (q53, .inl (g.2 0, 384, .inl f55)), (q49, .inl (g.2 0, 384, .inl f55)), (q54, .inl (g.2 0, 40, .inl f56)), (q50, .inl (g.2 0, 40, .inl f56)), (q44, .inr (9, [.ref q61, .ref q62, .int 1, .int 0])), (q61, .inl (g.2 0, 10, .inl f55)), (q68, .inl (g.2 0, 10, .inl f69)), (q62, .inl (g.2 0, 10, .inl f69)), (q34, .inl (g.2 0, 60, .inl f55)), (q45, .inl (g.2 0, 60, .inl f55)), (q35, .inl (g.2 0, 20, .inl f70)), (q46, .inl (g.2 0, 20, .inl f70)), (q67, .inl (g.2 0, 10, .inl f55)), (q33, .inr (9, [.ref q67, .ref q68, .int 1, .int 0]))] := hD
  refine lv_istore_n (lv' := [(3, .int (-1)), (2, .ref q22), (0, .ref q1), (1, .int x2)]) hx hb dX9_removeTempo_30 rfl hl (by decide) rfl (fun ls hl => ?_)
  refine lv_iload_n hx hb dX9_removeTempo_31 rfl (lv_at hl 0 rfl) ?_
  refine lv_iconst (v := (-1)) hx hb dX9_removeTempo_32 (by decide) ?_
  refine lv_icmp_ne (tgt := 46) hx hb dX9_removeTempo_33 (by decide) (fun h => absurd h (by decide)) (fun _ => ?_)
  exact x_throwN (text := "no place at this tick") hx hb hlx hown hE (e783 hE) (e23 hE) (by decide +kernel) hz (by rw [hml]; exact hl.1) dX9_removeTempo_36 dX9_removeTempo_39 dX9_removeTempo_40 dX9_removeTempo_42 dX9_removeTempo_45 hex (Nat.le_of_ble_eq_true rfl) (Nat.le_of_ble_eq_true rfl) (Nat.le_of_ble_eq_true rfl) (Nat.le_of_ble_eq_true rfl) hlocks hP hD hS hAe hsz (Nat.le_of_ble_eq_true rfl) (Nat.le_of_ble_eq_true rfl) [0, 1, 2, 3, 4, 5, 6, 7, 8, 9, 10, 11, 12, 13, 14, 15, 16, 17, 18, 19, 20] (by decide) rfl

set_option maxHeartbeats 4000000 in
set_option maxRecDepth 100000 in
theorem c1733_L_removeTempo (l : Launch) (g : gG) (hlx : l.stackTraces = false) (q1 q3 q16 q20 q23 q25 q33 q34 q35 q36 q44 q45 q46 q47 q50 q51 q54 q55 q62 q63 q68 q69 : Nat) (x2 : Int32) (w6 w7 w8 w9 w10 w11 w12 w13 w14 w15 w19 w30 w31 w32 w66 w67 : Value) (f21 : Nat → Option Nat) (f56 : Nat → Int32) (f57 : Nat → Int32) (f70 : Nat → Int32) (f71 : Nat → Int32) (hf22 : f21 1 = some q23) (hf24 : f21 0 = some q25) (hf72 : f56 0 = 0) (h4 : ¬ x2 = 0) (sz : Nat) : Met l yL_removeTempo [Cond.codeWith yL_removeTempo cL_removeTempo 4 (some .int) [(0, 9, 12, 15), (0, 9, 15, 39)]] ({ frames := 7, cells := 1, slots := 6, locals := 171 } : Room) (va_Pc [.ref q1, .int x2, .ref q3] (PZ g sz [(q36, .inl (g.2 0, 20, .inl f71)), (q47, .inl (g.2 0, 20, .inl f71)), (q35, .inl (g.2 0, 60, .inl f56)), (q46, .inl (g.2 0, 60, .inl f56)), (q69, .inl (g.2 0, 10, .inl f70)), (q63, .inl (g.2 0, 10, .inl f70)), (q68, .inl (g.2 0, 10, .inl f56)), (q62, .inl (g.2 0, 10, .inl f56)), (q34, .inr (9, [.ref q68, .ref q69, w66, w67])), (q45, .inr (9, [.ref q62, .ref q63, .int 1, .int 0])), (q55, .inl (g.2 0, 40, .inl f57)), (q51, .inl (g.2 0, 40, .inl f57)), (q54, .inl (g.2 0, 384, .inl f56)), (q50, .inl (g.2 0, 384, .inl f56)), (q33, .inr (5, [.ref q54, .ref q55])), (q44, .inr (5, [.ref q50, .ref q51])), (q25, .inr (8, [.ref q44, .ref q45, .ref q46, .ref q47, .int 0, .int 4, .int 0])), (q23, .inr (8, [.ref q33, .ref q34, .ref q35, .ref q36, w30, w31, w32])), (q20, .inl (g.2 3, 10, .inr (.inr (.inr (.inr f21))))), (q16, .inr (10, [.ref q20, .int 0, w19])), (q1, .inr (11, [.ref q16, w6, w7, w8, w9, w10, w11, w12, w13, w14, w15]))])) (QI g [(q36, .inl (g.2 0, 20, .inl f71)), (q47, .inl (g.2 0, 20, .inl f71)), (q35, .inl (g.2 0, 60, .inl f56)), (q46, .inl (g.2 0, 60, .inl f56)), (q69, .inl (g.2 0, 10, .inl f70)), (q63, .inl (g.2 0, 10, .inl f70)), (q68, .inl (g.2 0, 10, .inl f56)), (q62, .inl (g.2 0, 10, .inl f56)), (q34, .inr (9, [.ref q68, .ref q69, w66, w67])), (q45, .inr (9, [.ref q62, .ref q63, .int 1, .int 0])), (q55, .inl (g.2 0, 40, .inl f57)), (q51, .inl (g.2 0, 40, .inl f57)), (q54, .inl (g.2 0, 384, .inl f56)), (q50, .inl (g.2 0, 384, .inl f56)), (q33, .inr (5, [.ref q54, .ref q55])), (q44, .inr (5, [.ref q50, .ref q51])), (q25, .inr (8, [.ref q44, .ref q45, .ref q46, .ref q47, .int 0, .int 4, .int 0])), (q23, .inr (8, [.ref q33, .ref q34, .ref q35, .ref q36, w30, w31, w32])), (q20, .inl (g.2 3, 10, .inr (.inr (.inr (.inr f21))))), (q16, .inr (10, [.ref q20, .int 0, w19])), (q1, .inr (11, [.ref q16, w6, w7, w8, w9, w10, w11, w12, w13, w14, w15]))] sz 2 (fun _ => [])) 1 6 (va_A [(q36, .inl (g.2 0, 20, .inl f71)), (q47, .inl (g.2 0, 20, .inl f71)), (q35, .inl (g.2 0, 60, .inl f56)), (q46, .inl (g.2 0, 60, .inl f56)), (q69, .inl (g.2 0, 10, .inl f70)), (q63, .inl (g.2 0, 10, .inl f70)), (q68, .inl (g.2 0, 10, .inl f56)), (q62, .inl (g.2 0, 10, .inl f56)), (q34, .inr (9, [.ref q68, .ref q69, w66, w67])), (q45, .inr (9, [.ref q62, .ref q63, .int 1, .int 0])), (q55, .inl (g.2 0, 40, .inl f57)), (q51, .inl (g.2 0, 40, .inl f57)), (q54, .inl (g.2 0, 384, .inl f56)), (q50, .inl (g.2 0, 384, .inl f56)), (q33, .inr (5, [.ref q54, .ref q55])), (q44, .inr (5, [.ref q50, .ref q51])), (q25, .inr (8, [.ref q44, .ref q45, .ref q46, .ref q47, .int 0, .int 4, .int 0])), (q23, .inr (8, [.ref q33, .ref q34, .ref q35, .ref q36, w30, w31, w32])), (q20, .inl (g.2 3, 10, .inr (.inr (.inr (.inr f21))))), (q16, .inr (10, [.ref q20, .int 0, w19])), (q1, .inr (11, [.ref q16, w6, w7, w8, w9, w10, w11, w12, w13, w14, w15]))] sz) := by
  refine ofH (by decide) (Nat.le_of_ble_eq_true rfl) rfl ?_
  intro p e s m args below meth c A ls hAe hsz hx hb hml hr hlocks hin hown hE hP hD hA hS hl htb hz
  have hown : s.vm.findClass RL = some m.cls := hown
  refine lv_aload_n hx hb dL_removeTempo_0 rfl (lv_at hl 2 rfl) ?_
  refine lv_iconst (v := 0) hx hb dL_removeTempo_1 (by decide) ?_
  refine lv_aload_n hx hb dL_removeTempo_2 rfl (lv_at hl 0 rfl) ?_
  refine lv_iload_n hx hb dL_removeTempo_3 rfl (lv_at hl 1 rfl) ?_
  refine gx_i (wr := []) (rVx (rest := [.int 0, .ref q3]) hx hb hml hown hE hP hD hS hA hz 20 rfl rfl (c1732_X9_removeTempo l g hlx q1 q16 q20 q23 q25 q33 q34 q35 q36 q44 q45 q46 q47 q50 q51 q54 q55 q62 q63 q68 q69 x2 w6 w7 w8 w9 w10 w11 w12 w13 w14 w15 w19 w30 w31 w32 w66 w67 f21 f56 f57 f70 f71 (hf22) (hf24) (hf72) h4 s.heap.size) (kV_X9_removeTempo hE (e924 hE) rfl rfl ⟨(Nat.le_of_ble_eq_true rfl), (Nat.le_of_ble_eq_true rfl)⟩) [0, 1, 2, 3, 4, 5, 6, 7, 8, 9, 10, 11, 12, 13, 14, 15, 16, 17, 18, 19, 20] rfl (by decide) rfl hl.1 rfl (lv_room (Nat.le_of_ble_eq_true rfl)) dL_removeTempo_4 ⟨(Nat.le_of_ble_eq_true rfl), (Nat.le_of_ble_eq_true rfl)⟩) hP hD hS hA [0, 1, 2, 3, 4, 5, 6, 7, 8, 9, 10, 11, 12, 13, 14, 15, 16, 17, 18, 19, 20] [] rfl rfl (by decide) (by decide) (fun ce9 q9 H locs hP hD hS hq1 hq2 hq3 => ?_)
  have hP : va_P g.1 vwCl [(q1, .inr (11, [.ref q16, w6, w7, w8, w9, w10, w11, w12, w13, w14, w15])), (q20, .inl (g.2 3, 10, .inr (.inr (.inr (.inr f21))))), (q16, .inr (10, [.ref q20, .int 0, w19])), (q25, .inr (8, [.ref q44, .ref q45, .ref q46, .ref q47, .int 0, .int 4, .int 0])), (q23, .inr (8, [.ref q33, .ref q34, .ref q35, .ref q36, .int 0, .int 4, .int 0])), (q33, .inr (5, [.ref q54, .ref q55])), (q44, .inr (5, [.ref q50, .ref q51])), (q54, .inl (g.2 0, 384, .inl f56)), (q50, .inl (g.2 0, 384, .inl f56)), (q55, .inl (g.2 0, 40, .inl f57)), (q51, .inl (g.2 0, 40, .inl f57)), (q45, .inr (9, [.ref q62, .ref q63, .int 1, .int 0])), (q62, .inl (g.2 0, 10, .inl f56)), (q69, .inl (g.2 0, 10, .inl f70)), (q63, .inl (g.2 0, 10, .inl f70)), (q35, .inl (g.2 0, 60, .inl f56)), (q46, .inl (g.2 0, 60, .inl f56)), (q36, .inl (g.2 0, 20, .inl f71)), (q47, .inl (g.2 0, 20, .inl f71)), (q68, .inl (g.2 0, 10, .inl f56)), (q34, .inr (9, [.ref q68, .ref q69, .int 1, .int 0]))] H := hP
  have hD : va_D A [(q1, .inr (11, [.ref q16, w6, w7, w8, w9, w10, w11, w12, w13, w14, w15])), (q20, .inl (g.2 3, 10, .inr (.inr (.inr (.inr f21))))), (q16, .inr (10, [.ref q20, .int 0, w19])), (q25, .inr (8, [.ref q44, .ref q45, .ref q46, .ref q47, .int 0, .int 4, .int 0])), (q23, .inr (8, [.ref q33, .ref q34, .ref q35, .ref q36, .int 0, .int 4, .int 0])), (q33, .inr (5, [.ref q54, .ref q55])), (q44, .inr (5, [.ref q50, .ref q51])), (q54, .inl (g.2 0, 384, .inl f56)), (q50, .inl (g.2 0, 384, .inl f56)), (q55, .inl (g.2 0, 40, .inl f57)), (q51, .inl (g.2 0, 40, .inl f57)), (q45, .inr (9, [.ref q62, .ref q63, .int 1, .int 0])), (q62, .inl (g.2 0, 10, .inl f56)), (q69, .inl (g.2 0, 10, .inl f70)), (q63, .inl (g.2 0, 10, .inl f70)), (q35, .inl (g.2 0, 60, .inl f56)), (q46, .inl (g.2 0, 60, .inl f56)), (q36, .inl (g.2 0, 20, .inl f71)), (q47, .inl (g.2 0, 20, .inl f71)), (q68, .inl (g.2 0, 10, .inl f56)), (q34, .inr (9, [.ref q68, .ref q69, .int 1, .int 0]))] := hD
  refine x_catch (name := "java/util/NoSuchElementException") (hh := [(0, 9, 12, 15), (0, 9, 15, 39)]) (tgt := 15) hown htb [⟨0, 9, 12, 15⟩] ⟨0, 9, 15, 39⟩ [] rfl (fun z hz => by
    rcases List.mem_cons.mp hz with rfl | hz
    · exact Or.inr ⟨by decide, "java/lang/IllegalArgumentException", e611 hE, hE.2.2.2.2.2 ("java/util/NoSuchElementException", "java/lang/IllegalArgumentException") (by decide +kernel)⟩
    exact nomatch hz) rfl (by decide) (e777 hE) (e785 hE) hq1 hq2 hq3 rfl ?_
  refine lv_astore_n (lv' := [(3, .ref q9), (0, .ref q1), (1, .int x2), (2, .ref q3)]) hx hb dL_removeTempo_15 rfl hl (by decide) rfl (fun ls hl => ?_)
  refine lv_iconst (v := 2) hx hb dL_removeTempo_16 (by decide) ?_
  exact x_zret hx hb hr rfl rfl hlocks hP hD hS hAe hsz (Nat.le_of_ble_eq_true rfl) (Nat.le_of_ble_eq_true rfl) (fun _ => 0) [] (by decide) rfl dL_removeTempo_17

set_option maxHeartbeats 4000000 in
set_option maxRecDepth 100000 in
theorem c1734_X10_refuse (l : Launch) (g : gG) (q1 : Nat) (w2 w3 w4 w5 w6 w7 w8 w9 w10 w11 w12 w13 w14 w15 w16 w17 w18 w19 w20 w21 w22 w23 w24 w25 w26 w27 w28 w29 w30 w31 w32 w33 w34 w35 w36 w37 w38 : Value) (sz : Nat) : Met l yX10_refuse [Cond.code yX10_refuse cX10_refuse 2 (some .int)] ({ frames := 0, cells := 0, slots := 0, locals := 0 } : Room) (va_Pc [.ref q1, .int 2] (PX g sz [(q1, .inr (12, [w2, w3, w4, w5, w6, w7, w8, w9, w10, w11, w12, w13, w14, w15, w16, w17, w18, w19, w20, w21, w22, w23, w24, w25, w26, w27, w28, w29, w30, w31, w32, w33, w34, w35, w36, w37, w38]))])) (QI g [(q1, .inr (12, [w2, w3, w4, w5, w6, w7, w8, w9, w10, w11, w12, w13, w14, w15, w16, w17, w18, w19, w20, w21, w22, w23, w24, w25, w26, w27, w28, w29, w30, w31, w32, w33, w34, w35, w36, w37, w38]))] sz 0 (fun _ => [(q1, .inr (12, [w2, w3, w4, w5, w6, w7, .int 2, w9, w10, w11, w12, w13, w14, w15, w16, w17, w18, w19, w20, w21, w22, w23, w24, w25, w26, w27, w28, w29, w30, w31, w32, w33, w34, w35, w36, w37, w38]))])) 0 0 (va_A [(q1, .inr (12, [w2, w3, w4, w5, w6, w7, w8, w9, w10, w11, w12, w13, w14, w15, w16, w17, w18, w19, w20, w21, w22, w23, w24, w25, w26, w27, w28, w29, w30, w31, w32, w33, w34, w35, w36, w37, w38]))] sz) := by
  refine ofN (by decide) (Nat.le_of_ble_eq_true rfl) rfl ?_
  intro p e s m args below meth c A ls hAe hsz hx hb hml hr hlocks hin hown hE hP hD hA hS hl
  have hown : s.vm.findClass RX10 = some m.cls := hown
  refine lv_aload_n hx hb dX10_refuse_0 rfl (lv_at hl 0 rfl) ?_
  refine lv_iload_n hx hb dX10_refuse_1 rfl (lv_at hl 1 rfl) ?_
  refine pf_RX10_86 (ws' := [(q1, .inr (12, [w2, w3, w4, w5, w6, w7, .int 2, w9, w10, w11, w12, w13, w14, w15, w16, w17, w18, w19, w20, w21, w22, w23, w24, w25, w26, w27, w28, w29, w30, w31, w32, w33, w34, w35, w36, w37, w38]))]) hx hb hown hE hP hD hS 0 rfl rfl rfl (Nat.le_of_ble_eq_true rfl) dX10_refuse_2 rfl (fun H locs hP hD hS => ?_)
  refine lv_iconst (v := 0) hx hb dX10_refuse_5 (by decide) ?_
  exact x_zret hx hb hr rfl rfl hlocks hP hD hS hAe hsz (Nat.le_of_ble_eq_true rfl) (Nat.le_of_ble_eq_true rfl) (fun _ => 0) [0] (by decide) rfl dX10_refuse_6

set_option maxHeartbeats 4000000 in
set_option maxRecDepth 100000 in
theorem c1735_X10_removeTempo (l : Launch) (g : gG) (q1 q41 : Nat) (x2 : Int32) (w4 w5 w6 w7 w8 w9 w10 w11 w12 w13 w14 w15 w16 w17 w18 w19 w20 w21 w22 w23 w24 w25 w26 w27 w28 w29 w30 w31 w32 w33 w34 w35 w36 w37 w38 w39 : Value) (f42 : Nat → Int32) (hf43 : f42 453 = 1) (hf44 : f42 454 = 0) (h40 : ¬ x2 = 0) (sz : Nat) : Met l yX10_removeTempo [Cond.code yX10_removeTempo cX10_removeTempo 4 (some .int)] ({ frames := 1, cells := 0, slots := 0, locals := 21 } : Room) (va_Pc [.ref q1, .int x2] (PX g sz [(q41, .inl (g.2 0, 497, .inl f42)), (q1, .inr (12, [.ref q41, w4, w5, w6, w7, w8, w9, w10, w11, w12, w13, w14, w15, w16, w17, w18, w19, w20, w21, w22, w23, w24, w25, w26, w27, w28, w29, w30, w31, w32, w33, w34, w35, w36, w37, w38, w39]))])) (QI g [(q41, .inl (g.2 0, 497, .inl f42)), (q1, .inr (12, [.ref q41, w4, w5, w6, w7, w8, w9, w10, w11, w12, w13, w14, w15, w16, w17, w18, w19, w20, w21, w22, w23, w24, w25, w26, w27, w28, w29, w30, w31, w32, w33, w34, w35, w36, w37, w38, w39]))] sz 0 (fun _ => [(q1, .inr (12, [.ref q41, w4, w5, w6, w7, w8, .int 2, w10, w11, w12, w13, w14, w15, w16, w17, w18, w19, w20, w21, w22, w23, w24, w25, w26, w27, w28, w29, w30, w31, w32, w33, w34, w35, w36, w37, w38, w39]))])) 0 0 (va_A [(q41, .inl (g.2 0, 497, .inl f42)), (q1, .inr (12, [.ref q41, w4, w5, w6, w7, w8, w9, w10, w11, w12, w13, w14, w15, w16, w17, w18, w19, w20, w21, w22, w23, w24, w25, w26, w27, w28, w29, w30, w31, w32, w33, w34, w35, w36, w37, w38, w39]))] sz) := by
  refine ofN (by decide) (Nat.le_of_ble_eq_true rfl) rfl ?_
  intro p e s m args below meth c A ls hAe hsz hx hb hml hr hlocks hin hown hE hP hD hA hS hl
  have hown : s.vm.findClass RX10 = some m.cls := hown
  refine lv_aload_n hx hb dX10_removeTempo_0 rfl (lv_at hl 0 rfl) ?_
  refine lv_iconst (v := 0) hx hb dX10_removeTempo_1 (by decide) ?_
  refine pf_RX10_86 (ws' := [(q41, .inl (g.2 0, 497, .inl f42)), (q1, .inr (12, [.ref q41, w4, w5, w6, w7, w8, .int 0, w10, w11, w12, w13, w14, w15, w16, w17, w18, w19, w20, w21, w22, w23, w24, w25, w26, w27, w28, w29, w30, w31, w32, w33, w34, w35, w36, w37, w38, w39]))]) hx hb hown hE hP hD hS 1 rfl rfl rfl (Nat.le_of_ble_eq_true rfl) dX10_removeTempo_2 rfl (fun H locs hP hD hS => ?_)
  refine lv_iload_n hx hb dX10_removeTempo_5 rfl (lv_at hl 1 rfl) ?_
  refine lv_if_ne (tgt := 15) hx hb dX10_removeTempo_6 (by decide) (fun _ => ?_) (fun h => absurd h h40)
  refine lv_iconst (v := 0) hx hb dX10_removeTempo_15 (by decide) ?_
  refine lv_istore_n (lv' := [(2, .int 0), (0, .ref q1), (1, .int x2)]) hx hb dX10_removeTempo_16 rfl hl (by decide) rfl (fun ls hl => ?_)
  refine lv_iload_n hx hb dX10_removeTempo_17 rfl (lv_at hl 0 rfl) ?_
  refine lv_aload_n hx hb dX10_removeTempo_18 rfl (lv_at hl 1 rfl) ?_
  refine gf_RX10_9 hx hb hown hE hP 1 rfl rfl dX10_removeTempo_19 ?_
  refine lv_sipush (v := 453) hx hb dX10_removeTempo_22 (by decide) ?_
  refine x_iald (v := 1) hx hb hE hP 0 rfl 453 (x_in (by decide)) (by decide) hf43 dX10_removeTempo_25 ?_
  refine lv_icmp_ge (tgt := 51) hx hb dX10_removeTempo_26 (by decide) (fun h => absurd h (by decide)) (fun _ => ?_)
  refine lv_aload_n hx hb dX10_removeTempo_29 rfl (lv_at hl 1 rfl) ?_
  refine gf_RX10_9 hx hb hown hE hP 1 rfl rfl dX10_removeTempo_30 ?_
  refine lv_sipush (v := 454) hx hb dX10_removeTempo_33 (by decide) ?_
  refine lv_iconst (v := 2) hx hb dX10_removeTempo_36 (by decide) ?_
  refine lv_iload_n hx hb dX10_removeTempo_37 rfl (lv_at hl 0 rfl) ?_
  refine x_imul (v := 0) hx hb dX10_removeTempo_38 (by decide) ?_
  refine x_iadd (v := 454) hx hb dX10_removeTempo_39 (by decide) ?_
  refine x_iald (v := 0) hx hb hE hP 0 rfl 454 (x_in (by decide)) (by decide) hf44 dX10_removeTempo_40 ?_
  refine lv_iload_n hx hb dX10_removeTempo_41 rfl (lv_at hl 2 rfl) ?_
  refine lv_icmp_eq (tgt := 51) hx hb dX10_removeTempo_42 (by decide) (fun h => absurd h (Ne.symm h40)) (fun _ => ?_)
  refine lv_iinc (v := 1) (lv' := [(2, .int 1), (0, .ref q1), (1, .int x2)]) hx hb dX10_removeTempo_45 hl (k := 0) rfl (by decide) (by decide) rfl (fun ls hl => ?_)
  refine lv_goto (tgt := 17) hx hb dX10_removeTempo_48 (by decide) ?_
  refine lv_iload_n hx hb dX10_removeTempo_17 rfl (lv_at hl 0 rfl) ?_
  refine lv_aload_n hx hb dX10_removeTempo_18 rfl (lv_at hl 1 rfl) ?_
  refine gf_RX10_9 hx hb hown hE hP 1 rfl rfl dX10_removeTempo_19 ?_
  refine lv_sipush (v := 453) hx hb dX10_removeTempo_22 (by decide) ?_
  refine x_iald (v := 1) hx hb hE hP 0 rfl 453 (x_in (by decide)) (by decide) hf43 dX10_removeTempo_25 ?_
  refine lv_icmp_ge (tgt := 51) hx hb dX10_removeTempo_26 (by decide) (fun _ => ?_) (fun h => absurd (by decide) h)
  refine lv_iload_n hx hb dX10_removeTempo_51 rfl (lv_at hl 0 rfl) ?_
  refine lv_aload_n hx hb dX10_removeTempo_52 rfl (lv_at hl 1 rfl) ?_
  refine gf_RX10_9 hx hb hown hE hP 1 rfl rfl dX10_removeTempo_53 ?_
  refine lv_sipush (v := 453) hx hb dX10_removeTempo_56 (by decide) ?_
  refine x_iald (v := 1) hx hb hE hP 0 rfl 453 (x_in (by decide)) (by decide) hf43 dX10_removeTempo_59 ?_
  refine lv_icmp_ne (tgt := 69) hx hb dX10_removeTempo_60 (by decide) (fun h => absurd h (by decide)) (fun _ => ?_)
  refine lv_aload_n hx hb dX10_removeTempo_63 rfl (lv_at hl 1 rfl) ?_
  refine lv_iconst (v := 2) hx hb dX10_removeTempo_64 (by decide) ?_
  refine g_i (wr := [(q41, .inl (g.2 0, 497, .inl f42))]) (rV (rest := []) hx hb hml hown hE hP hD 1 rfl rfl (c1734_X10_refuse l g q1 (.ref q41) w4 w5 w6 w7 w8 (.int 0) w10 w11 w12 w13 w14 w15 w16 w17 w18 w19 w20 w21 w22 w23 w24 w25 w26 w27 w28 w29 w30 w31 w32 w33 w34 w35 w36 w37 w38 w39 H.size) (kV_X10_refuse hE (e1474 hE) rfl rfl ⟨(Nat.le_of_ble_eq_true rfl), (Nat.le_of_ble_eq_true rfl)⟩) [1] rfl (by decide) rfl hl.1 rfl (lv_room (Nat.le_of_ble_eq_true rfl)) dX10_removeTempo_65 ⟨(Nat.le_of_ble_eq_true rfl), (Nat.le_of_ble_eq_true rfl)⟩) hP hD hS hA [1] [0] rfl rfl (by decide) (by decide) (fun u1 H locs hP hD hS => ?_)
  have hP : va_P g.1 vwCl [(q41, .inl (g.2 0, 497, .inl f42)), (q1, .inr (12, [.ref q41, w4, w5, w6, w7, w8, .int 2, w10, w11, w12, w13, w14, w15, w16, w17, w18, w19, w20, w21, w22, w23, w24, w25, w26, w27, w28, w29, w30, w31, w32, w33, w34, w35, w36, w37, w38, w39]))] H := hP
  have hD : va_D A [(q41, .inl (g.2 0, 497, .inl f42)), (q1, .inr (12, [.ref q41, w4, w5, w6, w7, w8, .int 2, w10, w11, w12, w13, w14, w15, w16, w17, w18, w19, w20, w21, w22, w23, w24, w25, w26, w27, w28, w29, w30, w31, w32, w33, w34, w35, w36, w37, w38, w39]))] := hD
  exact x_zret hx hb hr rfl rfl hlocks hP hD hS hAe hsz (Nat.le_of_ble_eq_true rfl) (Nat.le_of_ble_eq_true rfl) (fun _ => 0) [1] (by decide) rfl dX10_removeTempo_68

set_option maxHeartbeats 4000000 in
set_option maxRecDepth 100000 in
theorem c1736_X9_removeTempo (l : Launch) (g : gG) (hlx : l.stackTraces = false) (q1 : Nat) (x2 : Int32) (h3 : x2 = 0) (sz : Nat) : vx_Met l yX9_removeTempo [Cond.code yX9_removeTempo cX9_removeTempo 4 (some .int)] ({ frames := 6, cells := 1, slots := 6, locals := 100 } : Room) (va_Pc [.ref q1, .int x2] (PZ g sz [])) NI (XW g [] sz "java/lang/IllegalArgumentException" []) 1 6 (va_A [] sz) := by
  refine ofX (by decide) (Nat.le_of_ble_eq_true rfl) rfl ?_
  intro p e s m args below meth c A ls hAe hsz hx hb hml hr hlocks hin hown hE hP hD hA hS hl hex hz
  have hown : s.vm.findClass RX9 = some m.cls := hown
  refine lv_iload_n hx hb dX9_removeTempo_0 rfl (lv_at hl 1 rfl) ?_
  refine lv_if_ne (tgt := 14) hx hb dX9_removeTempo_1 (by decide) (fun h => absurd h (i_nne h3)) (fun _ => ?_)
  exact x_throw (text := "the place at tick 0 stays") (names := ["java/lang/RuntimeException", "java/lang/Exception"]) hx hb hlx hown hE (by decide) (by decide) (e639 hE) (e20 hE) (by decide +kernel) (th_215 hE) tg_215_211 hz (by rw [hml]; exact hl.1) dX9_removeTempo_4 dX9_removeTempo_7 dX9_removeTempo_8 dX9_removeTempo_10 dX9_removeTempo_13 hex (Nat.le_of_ble_eq_true rfl) (Nat.le_of_ble_eq_true rfl) (Nat.le_of_ble_eq_true rfl) (Nat.le_of_ble_eq_true rfl) hlocks hP hD hS hAe hsz (Nat.le_of_ble_eq_true rfl) (Nat.le_of_ble_eq_true rfl) [] (by decide) rfl

set_option maxHeartbeats 4000000 in
set_option maxRecDepth 100000 in
theorem c1737_L_removeTempo (l : Launch) (g : gG) (hlx : l.stackTraces = false) (q1 q3 q15 q19 q22 q24 q32 q33 q34 q35 q43 q44 q45 q46 q49 q50 q53 q54 q62 q63 q68 q69 : Nat) (x2 : Int32) (w5 w6 w7 w8 w9 w10 w11 w12 w13 w14 w18 w29 w30 w31 w66 w67 : Value) (f20 : Nat → Option Nat) (f55 : Nat → Int32) (f57 : Nat → Int32) (f70 : Nat → Int32) (f71 : Nat → Int32) (hf21 : f20 1 = some q22) (hf23 : f20 0 = some q24) (hf56 : f55 0 = 0) (h72 : x2 = 0) (sz : Nat) : Met l yL_removeTempo [Cond.codeWith yL_removeTempo cL_removeTempo 4 (some .int) [(0, 9, 12, 15), (0, 9, 15, 39)]] ({ frames := 7, cells := 1, slots := 6, locals := 123 } : Room) (va_Pc [.ref q1, .int x2, .ref q3] (PZ g sz [(q35, .inl (g.2 0, 20, .inl f71)), (q46, .inl (g.2 0, 20, .inl f71)), (q34, .inl (g.2 0, 60, .inl f55)), (q45, .inl (g.2 0, 60, .inl f55)), (q69, .inl (g.2 0, 10, .inl f70)), (q63, .inl (g.2 0, 10, .inl f70)), (q68, .inl (g.2 0, 10, .inl f55)), (q62, .inl (g.2 0, 10, .inl f55)), (q33, .inr (9, [.ref q68, .ref q69, w66, w67])), (q44, .inr (9, [.ref q62, .ref q63, .int 1, .int 0])), (q54, .inl (g.2 0, 40, .inl f57)), (q50, .inl (g.2 0, 40, .inl f57)), (q53, .inl (g.2 0, 384, .inl f55)), (q49, .inl (g.2 0, 384, .inl f55)), (q32, .inr (5, [.ref q53, .ref q54])), (q43, .inr (5, [.ref q49, .ref q50])), (q24, .inr (8, [.ref q43, .ref q44, .ref q45, .ref q46, .int 0, .int 4, .int 0])), (q22, .inr (8, [.ref q32, .ref q33, .ref q34, .ref q35, w29, w30, w31])), (q19, .inl (g.2 3, 10, .inr (.inr (.inr (.inr f20))))), (q15, .inr (10, [.ref q19, .int 0, w18])), (q1, .inr (11, [.ref q15, w5, w6, w7, w8, w9, w10, w11, w12, w13, w14]))])) (QI g [(q35, .inl (g.2 0, 20, .inl f71)), (q46, .inl (g.2 0, 20, .inl f71)), (q34, .inl (g.2 0, 60, .inl f55)), (q45, .inl (g.2 0, 60, .inl f55)), (q69, .inl (g.2 0, 10, .inl f70)), (q63, .inl (g.2 0, 10, .inl f70)), (q68, .inl (g.2 0, 10, .inl f55)), (q62, .inl (g.2 0, 10, .inl f55)), (q33, .inr (9, [.ref q68, .ref q69, w66, w67])), (q44, .inr (9, [.ref q62, .ref q63, .int 1, .int 0])), (q54, .inl (g.2 0, 40, .inl f57)), (q50, .inl (g.2 0, 40, .inl f57)), (q53, .inl (g.2 0, 384, .inl f55)), (q49, .inl (g.2 0, 384, .inl f55)), (q32, .inr (5, [.ref q53, .ref q54])), (q43, .inr (5, [.ref q49, .ref q50])), (q24, .inr (8, [.ref q43, .ref q44, .ref q45, .ref q46, .int 0, .int 4, .int 0])), (q22, .inr (8, [.ref q32, .ref q33, .ref q34, .ref q35, w29, w30, w31])), (q19, .inl (g.2 3, 10, .inr (.inr (.inr (.inr f20))))), (q15, .inr (10, [.ref q19, .int 0, w18])), (q1, .inr (11, [.ref q15, w5, w6, w7, w8, w9, w10, w11, w12, w13, w14]))] sz 1 (fun _ => [])) 1 6 (va_A [(q35, .inl (g.2 0, 20, .inl f71)), (q46, .inl (g.2 0, 20, .inl f71)), (q34, .inl (g.2 0, 60, .inl f55)), (q45, .inl (g.2 0, 60, .inl f55)), (q69, .inl (g.2 0, 10, .inl f70)), (q63, .inl (g.2 0, 10, .inl f70)), (q68, .inl (g.2 0, 10, .inl f55)), (q62, .inl (g.2 0, 10, .inl f55)), (q33, .inr (9, [.ref q68, .ref q69, w66, w67])), (q44, .inr (9, [.ref q62, .ref q63, .int 1, .int 0])), (q54, .inl (g.2 0, 40, .inl f57)), (q50, .inl (g.2 0, 40, .inl f57)), (q53, .inl (g.2 0, 384, .inl f55)), (q49, .inl (g.2 0, 384, .inl f55)), (q32, .inr (5, [.ref q53, .ref q54])), (q43, .inr (5, [.ref q49, .ref q50])), (q24, .inr (8, [.ref q43, .ref q44, .ref q45, .ref q46, .int 0, .int 4, .int 0])), (q22, .inr (8, [.ref q32, .ref q33, .ref q34, .ref q35, w29, w30, w31])), (q19, .inl (g.2 3, 10, .inr (.inr (.inr (.inr f20))))), (q15, .inr (10, [.ref q19, .int 0, w18])), (q1, .inr (11, [.ref q15, w5, w6, w7, w8, w9, w10, w11, w12, w13, w14]))] sz) := by
  refine ofH (by decide) (Nat.le_of_ble_eq_true rfl) rfl ?_
  intro p e s m args below meth c A ls hAe hsz hx hb hml hr hlocks hin hown hE hP hD hA hS hl htb hz
  have hown : s.vm.findClass RL = some m.cls := hown
  refine lv_aload_n hx hb dL_removeTempo_0 rfl (lv_at hl 2 rfl) ?_
  refine lv_iconst (v := 0) hx hb dL_removeTempo_1 (by decide) ?_
  refine lv_aload_n hx hb dL_removeTempo_2 rfl (lv_at hl 0 rfl) ?_
  refine lv_iload_n hx hb dL_removeTempo_3 rfl (lv_at hl 1 rfl) ?_
  refine gx_i (wr := [(q35, .inl (g.2 0, 20, .inl f71)), (q46, .inl (g.2 0, 20, .inl f71)), (q34, .inl (g.2 0, 60, .inl f55)), (q45, .inl (g.2 0, 60, .inl f55)), (q69, .inl (g.2 0, 10, .inl f70)), (q63, .inl (g.2 0, 10, .inl f70)), (q68, .inl (g.2 0, 10, .inl f55)), (q62, .inl (g.2 0, 10, .inl f55)), (q33, .inr (9, [.ref q68, .ref q69, w66, w67])), (q44, .inr (9, [.ref q62, .ref q63, .int 1, .int 0])), (q54, .inl (g.2 0, 40, .inl f57)), (q50, .inl (g.2 0, 40, .inl f57)), (q53, .inl (g.2 0, 384, .inl f55)), (q49, .inl (g.2 0, 384, .inl f55)), (q32, .inr (5, [.ref q53, .ref q54])), (q43, .inr (5, [.ref q49, .ref q50])), (q24, .inr (8, [.ref q43, .ref q44, .ref q45, .ref q46, .int 0, .int 4, .int 0])), (q22, .inr (8, [.ref q32, .ref q33, .ref q34, .ref q35, w29, w30, w31])), (q19, .inl (g.2 3, 10, .inr (.inr (.inr (.inr f20))))), (q15, .inr (10, [.ref q19, .int 0, w18])), (q1, .inr (11, [.ref q15, w5, w6, w7, w8, w9, w10, w11, w12, w13, w14]))]) (rVx (rest := [.int 0, .ref q3]) hx hb hml hown hE hP hD hS hA hz 20 rfl rfl (c1736_X9_removeTempo l g hlx q1 x2 h72 s.heap.size) (kV_X9_removeTempo hE (e924 hE) rfl rfl ⟨(Nat.le_of_ble_eq_true rfl), (Nat.le_of_ble_eq_true rfl)⟩) [] rfl (by decide) rfl hl.1 rfl (lv_room (Nat.le_of_ble_eq_true rfl)) dL_removeTempo_4 ⟨(Nat.le_of_ble_eq_true rfl), (Nat.le_of_ble_eq_true rfl)⟩) hP hD hS hA [] [0, 1, 2, 3, 4, 5, 6, 7, 8, 9, 10, 11, 12, 13, 14, 15, 16, 17, 18, 19, 20] rfl rfl (by decide) (by decide) (fun ce9 q9 H locs hP hD hS hq1 hq2 hq3 => ?_)
  have hP : va_P g.1 vwCl [(q35, .inl (g.2 0, 20, .inl f71)), (q46, .inl (g.2 0, 20, .inl f71)), (q34, .inl (g.2 0, 60, .inl f55)), (q45, .inl (g.2 0, 60, .inl f55)), (q69, .inl (g.2 0, 10, .inl f70)), (q63, .inl (g.2 0, 10, .inl f70)), (q68, .inl (g.2 0, 10, .inl f55)), (q62, .inl (g.2 0, 10, .inl f55)), (q33, .inr (9, [.ref q68, .ref q69, w66, w67])), (q44, .inr (9, [.ref q62, .ref q63, .int 1, .int 0])), (q54, .inl (g.2 0, 40, .inl f57)), (q50, .inl (g.2 0, 40, .inl f57)), (q53, .inl (g.2 0, 384, .inl f55)), (q49, .inl (g.2 0, 384, .inl f55)), (q32, .inr (5, [.ref q53, .ref q54])), (q43, .inr (5, [.ref q49, .ref q50])), (q24, .inr (8, [.ref q43, .ref q44, .ref q45, .ref q46, .int 0, .int 4, .int 0])), (q22, .inr (8, [.ref q32, .ref q33, .ref q34, .ref q35, w29, w30, w31])), (q19, .inl (g.2 3, 10, .inr (.inr (.inr (.inr f20))))), (q15, .inr (10, [.ref q19, .int 0, w18])), (q1, .inr (11, [.ref q15, w5, w6, w7, w8, w9, w10, w11, w12, w13, w14]))] H := hP
  have hD : va_D A [(q35, .inl (g.2 0, 20, .inl f71)), (q46, .inl (g.2 0, 20, .inl f71)), (q34, .inl (g.2 0, 60, .inl f55)), (q45, .inl (g.2 0, 60, .inl f55)), (q69, .inl (g.2 0, 10, .inl f70)), (q63, .inl (g.2 0, 10, .inl f70)), (q68, .inl (g.2 0, 10, .inl f55)), (q62, .inl (g.2 0, 10, .inl f55)), (q33, .inr (9, [.ref q68, .ref q69, w66, w67])), (q44, .inr (9, [.ref q62, .ref q63, .int 1, .int 0])), (q54, .inl (g.2 0, 40, .inl f57)), (q50, .inl (g.2 0, 40, .inl f57)), (q53, .inl (g.2 0, 384, .inl f55)), (q49, .inl (g.2 0, 384, .inl f55)), (q32, .inr (5, [.ref q53, .ref q54])), (q43, .inr (5, [.ref q49, .ref q50])), (q24, .inr (8, [.ref q43, .ref q44, .ref q45, .ref q46, .int 0, .int 4, .int 0])), (q22, .inr (8, [.ref q32, .ref q33, .ref q34, .ref q35, w29, w30, w31])), (q19, .inl (g.2 3, 10, .inr (.inr (.inr (.inr f20))))), (q15, .inr (10, [.ref q19, .int 0, w18])), (q1, .inr (11, [.ref q15, w5, w6, w7, w8, w9, w10, w11, w12, w13, w14]))] := hD
  refine x_catch (name := "java/lang/IllegalArgumentException") (hh := [(0, 9, 12, 15), (0, 9, 15, 39)]) (tgt := 12) hown htb [] ⟨0, 9, 12, 15⟩ [⟨0, 9, 15, 39⟩] rfl (fun _ h => nomatch h) rfl (by decide) (e611 hE) (e641 hE) hq1 hq2 hq3 rfl ?_
  refine lv_astore_n (lv' := [(3, .ref q9), (0, .ref q1), (1, .int x2), (2, .ref q3)]) hx hb dL_removeTempo_12 rfl hl (by decide) rfl (fun ls hl => ?_)
  refine lv_iconst (v := 1) hx hb dL_removeTempo_13 (by decide) ?_
  exact x_zret hx hb hr rfl rfl hlocks hP hD hS hAe hsz (Nat.le_of_ble_eq_true rfl) (Nat.le_of_ble_eq_true rfl) (fun _ => 0) [] (by decide) rfl dL_removeTempo_14

set_option maxHeartbeats 4000000 in
set_option maxRecDepth 100000 in
theorem c1738_X10_removeTempo (l : Launch) (g : gG) (q1 : Nat) (x2 : Int32) (w3 w4 w5 w6 w7 w8 w9 w10 w11 w12 w13 w14 w15 w16 w17 w18 w19 w20 w21 w22 w23 w24 w25 w26 w27 w28 w29 w30 w31 w32 w33 w34 w35 w36 w37 w38 w39 : Value) (h40 : x2 = 0) (sz : Nat) : Met l yX10_removeTempo [Cond.code yX10_removeTempo cX10_removeTempo 4 (some .int)] ({ frames := 1, cells := 0, slots := 0, locals := 21 } : Room) (va_Pc [.ref q1, .int x2] (PX g sz [(q1, .inr (12, [w3, w4, w5, w6, w7, w8, w9, w10, w11, w12, w13, w14, w15, w16, w17, w18, w19, w20, w21, w22, w23, w24, w25, w26, w27, w28, w29, w30, w31, w32, w33, w34, w35, w36, w37, w38, w39]))])) (QI g [(q1, .inr (12, [w3, w4, w5, w6, w7, w8, w9, w10, w11, w12, w13, w14, w15, w16, w17, w18, w19, w20, w21, w22, w23, w24, w25, w26, w27, w28, w29, w30, w31, w32, w33, w34, w35, w36, w37, w38, w39]))] sz 0 (fun _ => [(q1, .inr (12, [w3, w4, w5, w6, w7, w8, .int 1, w10, w11, w12, w13, w14, w15, w16, w17, w18, w19, w20, w21, w22, w23, w24, w25, w26, w27, w28, w29, w30, w31, w32, w33, w34, w35, w36, w37, w38, w39]))])) 0 0 (va_A [(q1, .inr (12, [w3, w4, w5, w6, w7, w8, w9, w10, w11, w12, w13, w14, w15, w16, w17, w18, w19, w20, w21, w22, w23, w24, w25, w26, w27, w28, w29, w30, w31, w32, w33, w34, w35, w36, w37, w38, w39]))] sz) := by
  refine ofN (by decide) (Nat.le_of_ble_eq_true rfl) rfl ?_
  intro p e s m args below meth c A ls hAe hsz hx hb hml hr hlocks hin hown hE hP hD hA hS hl
  have hown : s.vm.findClass RX10 = some m.cls := hown
  refine lv_aload_n hx hb dX10_removeTempo_0 rfl (lv_at hl 0 rfl) ?_
  refine lv_iconst (v := 0) hx hb dX10_removeTempo_1 (by decide) ?_
  refine pf_RX10_86 (ws' := [(q1, .inr (12, [w3, w4, w5, w6, w7, w8, .int 0, w10, w11, w12, w13, w14, w15, w16, w17, w18, w19, w20, w21, w22, w23, w24, w25, w26, w27, w28, w29, w30, w31, w32, w33, w34, w35, w36, w37, w38, w39]))]) hx hb hown hE hP hD hS 0 rfl rfl rfl (Nat.le_of_ble_eq_true rfl) dX10_removeTempo_2 rfl (fun H locs hP hD hS => ?_)
  refine lv_iload_n hx hb dX10_removeTempo_5 rfl (lv_at hl 1 rfl) ?_
  refine lv_if_ne (tgt := 15) hx hb dX10_removeTempo_6 (by decide) (fun h => absurd h (i_nne h40)) (fun _ => ?_)
  refine lv_aload_n hx hb dX10_removeTempo_9 rfl (lv_at hl 0 rfl) ?_
  refine lv_iconst (v := 1) hx hb dX10_removeTempo_10 (by decide) ?_
  refine g_i (wr := []) (rV (rest := []) hx hb hml hown hE hP hD 0 rfl rfl (c1475_X10_refuse l g q1 w3 w4 w5 w6 w7 w8 (.int 0) w10 w11 w12 w13 w14 w15 w16 w17 w18 w19 w20 w21 w22 w23 w24 w25 w26 w27 w28 w29 w30 w31 w32 w33 w34 w35 w36 w37 w38 w39 H.size) (kV_X10_refuse hE (e1474 hE) rfl rfl ⟨(Nat.le_of_ble_eq_true rfl), (Nat.le_of_ble_eq_true rfl)⟩) [0] rfl (by decide) rfl hl.1 rfl (lv_room (Nat.le_of_ble_eq_true rfl)) dX10_removeTempo_11 ⟨(Nat.le_of_ble_eq_true rfl), (Nat.le_of_ble_eq_true rfl)⟩) hP hD hS hA [0] [] rfl rfl (by decide) (by decide) (fun u1 H locs hP hD hS => ?_)
  have hP : va_P g.1 vwCl [(q1, .inr (12, [w3, w4, w5, w6, w7, w8, .int 1, w10, w11, w12, w13, w14, w15, w16, w17, w18, w19, w20, w21, w22, w23, w24, w25, w26, w27, w28, w29, w30, w31, w32, w33, w34, w35, w36, w37, w38, w39]))] H := hP
  have hD : va_D A [(q1, .inr (12, [w3, w4, w5, w6, w7, w8, .int 1, w10, w11, w12, w13, w14, w15, w16, w17, w18, w19, w20, w21, w22, w23, w24, w25, w26, w27, w28, w29, w30, w31, w32, w33, w34, w35, w36, w37, w38, w39]))] := hD
  exact x_zret hx hb hr rfl rfl hlocks hP hD hS hAe hsz (Nat.le_of_ble_eq_true rfl) (Nat.le_of_ble_eq_true rfl) (fun _ => 0) [0] (by decide) rfl dX10_removeTempo_14

set_option maxHeartbeats 4000000 in
set_option maxRecDepth 100000 in
theorem c1739_X9_tempo (l : Launch) (g : gG) (hlx : l.stackTraces = false) (q1 : Nat) (x2 : Int32) (h3 : x2 < 0) (sz : Nat) : vx_Met l yX9_tempo [Cond.code yX9_tempo cX9_tempo 2 (some .int)] ({ frames := 7, cells := 1, slots := 6, locals := 122 } : Room) (va_Pc [.ref q1, .int x2] (PZ g sz [])) NI (XW g [] sz "java/lang/IllegalArgumentException" []) 1 6 (va_A [] sz) := by
  refine ofX (by decide) (Nat.le_of_ble_eq_true rfl) rfl ?_
  intro p e s m args below meth c A ls hAe hsz hx hb hml hr hlocks hin hown hE hP hD hA hS hl hex hz
  have hown : s.vm.findClass RX9 = some m.cls := hown
  refine lv_iload_n hx hb dX9_tempo_0 rfl (lv_at hl 1 rfl) ?_
  refine lv_iconst (v := 0) hx hb dX9_tempo_1 (by decide) ?_
  refine lv_sipush (v := 30000) hx hb dX9_tempo_2 (by decide) ?_
  refine gx_v (wr := []) (rSx (rest := []) hx hb hml hown hE hP hD hS hA hz (c639_X9_requireRange l g hlx x2 30000 h3 s.heap.size) (kS_X9_requireRange hE (e636 hE) rfl rfl ⟨(Nat.le_of_ble_eq_true rfl), (Nat.le_of_ble_eq_true rfl)⟩) [] rfl (by decide) rfl hl.1 rfl (lv_room (Nat.le_of_ble_eq_true rfl)) dX9_tempo_5 ⟨(Nat.le_of_ble_eq_true rfl), (Nat.le_of_ble_eq_true rfl)⟩) hP hD hS hA [] [] rfl rfl (by decide) (by decide) (fun ce9 q9 H locs hP hD hS hq1 hq2 hq3 => ?_)
  exact x_out hex hlocks hq1 hq2 hq3 hP hD hS hAe hsz (Nat.le_of_ble_eq_true rfl) (Nat.le_of_ble_eq_true rfl) [] (by decide) rfl

set_option maxHeartbeats 4000000 in
set_option maxRecDepth 100000 in
theorem c1740_L_tempo (l : Launch) (g : gG) (hlx : l.stackTraces = false) (q1 q3 : Nat) (x2 : Int32) (w5 w6 w7 w8 w9 w10 w11 w12 w13 w14 w15 : Value) (h4 : x2 < 0) (sz : Nat) : Met l yL_tempo [Cond.codeWith yL_tempo cL_tempo 4 (some .int) [(0, 9, 12, 15)]] ({ frames := 8, cells := 1, slots := 6, locals := 143 } : Room) (va_Pc [.ref q1, .int x2, .ref q3] (PZ g sz [(q1, .inr (11, [w5, w6, w7, w8, w9, w10, w11, w12, w13, w14, w15]))])) (QI g [(q1, .inr (11, [w5, w6, w7, w8, w9, w10, w11, w12, w13, w14, w15]))] sz 1 (fun _ => [])) 1 6 (va_A [(q1, .inr (11, [w5, w6, w7, w8, w9, w10, w11, w12, w13, w14, w15]))] sz) := by
  refine ofH (by decide) (Nat.le_of_ble_eq_true rfl) rfl ?_
  intro p e s m args below meth c A ls hAe hsz hx hb hml hr hlocks hin hown hE hP hD hA hS hl htb hz
  have hown : s.vm.findClass RL = some m.cls := hown
  refine lv_aload_n hx hb dL_tempo_0 rfl (lv_at hl 2 rfl) ?_
  refine lv_iconst (v := 0) hx hb dL_tempo_1 (by decide) ?_
  refine lv_aload_n hx hb dL_tempo_2 rfl (lv_at hl 0 rfl) ?_
  refine lv_iload_n hx hb dL_tempo_3 rfl (lv_at hl 1 rfl) ?_
  refine gx_i (wr := [(q1, .inr (11, [w5, w6, w7, w8, w9, w10, w11, w12, w13, w14, w15]))]) (rVx (rest := [.int 0, .ref q3]) hx hb hml hown hE hP hD hS hA hz 0 rfl rfl (c1739_X9_tempo l g hlx q1 x2 h4 s.heap.size) (kV_X9_tempo hE (e938 hE) rfl rfl ⟨(Nat.le_of_ble_eq_true rfl), (Nat.le_of_ble_eq_true rfl)⟩) [] rfl (by decide) rfl hl.1 rfl (lv_room (Nat.le_of_ble_eq_true rfl)) dL_tempo_4 ⟨(Nat.le_of_ble_eq_true rfl), (Nat.le_of_ble_eq_true rfl)⟩) hP hD hS hA [] [0] rfl rfl (by decide) (by decide) (fun ce9 q9 H locs hP hD hS hq1 hq2 hq3 => ?_)
  have hP : va_P g.1 vwCl [(q1, .inr (11, [w5, w6, w7, w8, w9, w10, w11, w12, w13, w14, w15]))] H := hP
  have hD : va_D A [(q1, .inr (11, [w5, w6, w7, w8, w9, w10, w11, w12, w13, w14, w15]))] := hD
  refine x_catch (name := "java/lang/IllegalArgumentException") (hh := [(0, 9, 12, 15)]) (tgt := 12) hown htb [] ⟨0, 9, 12, 15⟩ [] rfl (fun _ h => nomatch h) rfl (by decide) (e611 hE) (e641 hE) hq1 hq2 hq3 rfl ?_
  refine lv_astore_n (lv' := [(3, .ref q9), (0, .ref q1), (1, .int x2), (2, .ref q3)]) hx hb dL_tempo_12 rfl hl (by decide) rfl (fun ls hl => ?_)
  refine lv_iconst (v := 1) hx hb dL_tempo_13 (by decide) ?_
  exact x_zret hx hb hr rfl rfl hlocks hP hD hS hAe hsz (Nat.le_of_ble_eq_true rfl) (Nat.le_of_ble_eq_true rfl) (fun _ => 0) [] (by decide) rfl dL_tempo_14

set_option maxHeartbeats 4000000 in
set_option maxRecDepth 100000 in
theorem c1741_X10_tempo (l : Launch) (g : gG) (q1 : Nat) (x2 : Int32) (w4 w5 w6 w7 w8 w9 w10 w11 w12 w13 w14 w15 w16 w17 w18 w19 w20 w21 w22 w23 w24 w25 w26 w27 w28 w29 w30 w31 w32 w33 w34 w35 w36 w37 w38 w39 w40 : Value) (h3 : x2 < 0) (sz : Nat) : Met l yX10_tempo [Cond.code yX10_tempo cX10_tempo 2 (some .int)] ({ frames := 1, cells := 0, slots := 0, locals := 22 } : Room) (va_Pc [.ref q1, .int x2] (PX g sz [(q1, .inr (12, [w4, w5, w6, w7, w8, w9, w10, w11, w12, w13, w14, w15, w16, w17, w18, w19, w20, w21, w22, w23, w24, w25, w26, w27, w28, w29, w30, w31, w32, w33, w34, w35, w36, w37, w38, w39, w40]))])) (QI g [(q1, .inr (12, [w4, w5, w6, w7, w8, w9, w10, w11, w12, w13, w14, w15, w16, w17, w18, w19, w20, w21, w22, w23, w24, w25, w26, w27, w28, w29, w30, w31, w32, w33, w34, w35, w36, w37, w38, w39, w40]))] sz 0 (fun _ => [(q1, .inr (12, [w4, w5, w6, w7, w8, w9, .int 1, w11, w12, w13, w14, w15, w16, w17, w18, w19, w20, w21, w22, w23, w24, w25, w26, w27, w28, w29, w30, w31, w32, w33, w34, w35, w36, w37, w38, w39, w40]))])) 0 0 (va_A [(q1, .inr (12, [w4, w5, w6, w7, w8, w9, w10, w11, w12, w13, w14, w15, w16, w17, w18, w19, w20, w21, w22, w23, w24, w25, w26, w27, w28, w29, w30, w31, w32, w33, w34, w35, w36, w37, w38, w39, w40]))] sz) := by
  refine ofN (by decide) (Nat.le_of_ble_eq_true rfl) rfl ?_
  intro p e s m args below meth c A ls hAe hsz hx hb hml hr hlocks hin hown hE hP hD hA hS hl
  have hown : s.vm.findClass RX10 = some m.cls := hown
  refine lv_aload_n hx hb dX10_tempo_0 rfl (lv_at hl 0 rfl) ?_
  refine lv_iload_n hx hb dX10_tempo_1 rfl (lv_at hl 1 rfl) ?_
  refine lv_iconst (v := 0) hx hb dX10_tempo_2 (by decide) ?_
  refine lv_sipush (v := 30000) hx hb dX10_tempo_3 (by decide) ?_
  refine g0_i (rS (rest := [.ref q1]) hx hb hml hown hE hP hD (c642_X10_in l g x2 30000 h3 s.heap.size) (kS_X10_in hE (e1431 hE) rfl rfl ⟨(Nat.le_of_ble_eq_true rfl), (Nat.le_of_ble_eq_true rfl)⟩) [] rfl (by decide) rfl hl.1 rfl (lv_room (Nat.le_of_ble_eq_true rfl)) dX10_tempo_6 ⟨(Nat.le_of_ble_eq_true rfl), (Nat.le_of_ble_eq_true rfl)⟩) hP hD hS hA (fun u9 H locs hP hS => ?_)
  refine lv_if_eq (tgt := 16) hx hb dX10_tempo_9 (by decide) (fun _ => ?_) (fun h => absurd (by decide) h)
  refine lv_iconst (v := 1) hx hb dX10_tempo_16 (by decide) ?_
  refine pf_RX10_86 (ws' := [(q1, .inr (12, [w4, w5, w6, w7, w8, w9, .int 1, w11, w12, w13, w14, w15, w16, w17, w18, w19, w20, w21, w22, w23, w24, w25, w26, w27, w28, w29, w30, w31, w32, w33, w34, w35, w36, w37, w38, w39, w40]))]) hx hb hown hE hP hD hS 0 rfl rfl rfl (Nat.le_of_ble_eq_true rfl) dX10_tempo_17 rfl (fun H locs hP hD hS => ?_)
  refine lv_aload_n hx hb dX10_tempo_20 rfl (lv_at hl 0 rfl) ?_
  refine gf_RX10_86 hx hb hown hE hP 0 rfl rfl dX10_tempo_21 ?_
  refine lv_if_le (tgt := 31) hx hb dX10_tempo_24 (by decide) (fun h => absurd h (by decide)) (fun _ => ?_)
  refine lv_iconst (v := 0) hx hb dX10_tempo_27 (by decide) ?_
  refine lv_goto (tgt := 36) hx hb dX10_tempo_28 (by decide) ?_
  exact x_zret hx hb hr rfl rfl hlocks hP hD hS hAe hsz (Nat.le_of_ble_eq_true rfl) (Nat.le_of_ble_eq_true rfl) (fun _ => 0) [0] (by decide) rfl dX10_tempo_36

set_option maxHeartbeats 4000000 in
set_option maxRecDepth 100000 in
theorem c1742_X7_placePace (l : Launch) (g : gG) (q1 q6 : Nat) (w2 w4 w5 : Value) (f7 : Nat → Int32) (hf8 : f7 0 = 100) (sz : Nat) : Met l yX7_placePace [Cond.code yX7_placePace cX7_placePace 2 (some .int)] ({ frames := 0, cells := 0, slots := 0, locals := 0 } : Room) (va_Pc [.ref q1, .int 0] (PX g sz [(q6, .inl (g.2 0, 10, .inl f7)), (q1, .inr (9, [w2, .ref q6, w4, w5]))])) (QI g [(q6, .inl (g.2 0, 10, .inl f7)), (q1, .inr (9, [w2, .ref q6, w4, w5]))] sz 100 (fun _ => [(q6, .inl (g.2 0, 10, .inl f7)), (q1, .inr (9, [w2, .ref q6, w4, w5]))])) 0 0 (va_A [(q6, .inl (g.2 0, 10, .inl f7)), (q1, .inr (9, [w2, .ref q6, w4, w5]))] sz) := by
  refine ofN (by decide) (Nat.le_of_ble_eq_true rfl) rfl ?_
  intro p e s m args below meth c A ls hAe hsz hx hb hml hr hlocks hin hown hE hP hD hA hS hl
  have hown : s.vm.findClass RX7 = some m.cls := hown
  refine lv_iload_n hx hb dX7_placePace_0 rfl (lv_at hl 1 rfl) ?_
  refine lv_if_lt (tgt := 22) hx hb dX7_placePace_1 (by decide) (fun h => absurd h (by decide)) (fun _ => ?_)
  refine lv_iload_n hx hb dX7_placePace_4 rfl (lv_at hl 1 rfl) ?_
  refine lv_aload_n hx hb dX7_placePace_5 rfl (lv_at hl 0 rfl) ?_
  refine gf_RX7_15 hx hb hown hE hP 1 rfl rfl dX7_placePace_6 ?_
  refine x_aleni (v := 10) hx hb hE hP 0 rfl rfl dX7_placePace_9 ?_
  refine lv_icmp_ge (tgt := 22) hx hb dX7_placePace_10 (by decide) (fun h => absurd h (by decide)) (fun _ => ?_)
  refine lv_aload_n hx hb dX7_placePace_13 rfl (lv_at hl 0 rfl) ?_
  refine gf_RX7_15 hx hb hown hE hP 1 rfl rfl dX7_placePace_14 ?_
  refine lv_iload_n hx hb dX7_placePace_17 rfl (lv_at hl 1 rfl) ?_
  refine x_iald (v := 100) hx hb hE hP 0 rfl 0 (x_in (by decide)) (by decide) hf8 dX7_placePace_18 ?_
  refine lv_goto (tgt := 23) hx hb dX7_placePace_19 (by decide) ?_
  exact x_zret hx hb hr rfl rfl hlocks hP hD hS hAe hsz (Nat.le_of_ble_eq_true rfl) (Nat.le_of_ble_eq_true rfl) (fun _ => 0) [0, 1] (by decide) rfl dX7_placePace_23

set_option maxHeartbeats 4000000 in
set_option maxRecDepth 100000 in
theorem c1743_X7_paceAt (l : Launch) (g : gG) (q1 q7 : Nat) (x2 : Int32) (w3 w6 : Value) (f8 : Nat → Int32) (hf9 : f8 0 = 100) (sz : Nat) : Met l yX7_paceAt [Cond.code yX7_paceAt cX7_paceAt 4 (some .int)] ({ frames := 1, cells := 0, slots := 0, locals := 21 } : Room) (va_Pc [.ref q1, .int x2] (PX g sz [(q7, .inl (g.2 0, 10, .inl f8)), (q1, .inr (9, [w3, .ref q7, .int 1, w6]))])) (QI g [(q7, .inl (g.2 0, 10, .inl f8)), (q1, .inr (9, [w3, .ref q7, .int 1, w6]))] sz 100 (fun _ => [(q7, .inl (g.2 0, 10, .inl f8)), (q1, .inr (9, [w3, .ref q7, .int 1, w6]))])) 0 0 (va_A [(q7, .inl (g.2 0, 10, .inl f8)), (q1, .inr (9, [w3, .ref q7, .int 1, w6]))] sz) := by
  refine ofN (by decide) (Nat.le_of_ble_eq_true rfl) rfl ?_
  intro p e s m args below meth c A ls hAe hsz hx hb hml hr hlocks hin hown hE hP hD hA hS hl
  have hown : s.vm.findClass RX7 = some m.cls := hown
  refine lv_aload_n hx hb dX7_paceAt_0 rfl (lv_at hl 0 rfl) ?_
  refine lv_iconst (v := 0) hx hb dX7_paceAt_1 (by decide) ?_
  refine g_i (wr := []) (rV (rest := []) hx hb hml hown hE hP hD 1 rfl rfl (c1742_X7_placePace l g q1 q7 w3 (.int 1) w6 f8 (hf9) s.heap.size) (kV_X7_placePace hE (e413 hE) rfl rfl ⟨(Nat.le_of_ble_eq_true rfl), (Nat.le_of_ble_eq_true rfl)⟩) [0, 1] rfl (by decide) rfl hl.1 rfl (lv_room (Nat.le_of_ble_eq_true rfl)) dX7_paceAt_2 ⟨(Nat.le_of_ble_eq_true rfl), (Nat.le_of_ble_eq_true rfl)⟩) hP hD hS hA [0, 1] [] rfl rfl (by decide) (by decide) (fun u1 H locs hP hD hS => ?_)
  have hP : va_P g.1 vwCl [(q7, .inl (g.2 0, 10, .inl f8)), (q1, .inr (9, [w3, .ref q7, .int 1, w6]))] H := hP
  have hD : va_D A [(q7, .inl (g.2 0, 10, .inl f8)), (q1, .inr (9, [w3, .ref q7, .int 1, w6]))] := hD
  refine lv_istore_n (lv' := [(2, .int 100), (0, .ref q1), (1, .int x2)]) hx hb dX7_paceAt_5 rfl hl (by decide) rfl (fun ls hl => ?_)
  refine lv_iconst (v := 1) hx hb dX7_paceAt_6 (by decide) ?_
  refine lv_istore_n (lv' := [(3, .int 1), (2, .int 100), (0, .ref q1), (1, .int x2)]) hx hb dX7_paceAt_7 rfl hl (by decide) rfl (fun ls hl => ?_)
  refine lv_iload_n hx hb dX7_paceAt_8 rfl (lv_at hl 0 rfl) ?_
  refine lv_aload_n hx hb dX7_paceAt_9 rfl (lv_at hl 2 rfl) ?_
  refine gf_RX7_18 hx hb hown hE hP 1 rfl rfl dX7_paceAt_10 ?_
  refine lv_icmp_ge (tgt := 37) hx hb dX7_paceAt_13 (by decide) (fun _ => ?_) (fun h => absurd (by decide) h)
  refine lv_iload_n hx hb dX7_paceAt_37 rfl (lv_at hl 1 rfl) ?_
  exact x_zret hx hb hr rfl rfl hlocks hP hD hS hAe hsz (Nat.le_of_ble_eq_true rfl) (Nat.le_of_ble_eq_true rfl) (fun _ => 0) [0, 1] (by decide) rfl dX7_paceAt_38

set_option maxHeartbeats 4000000 in
set_option maxRecDepth 100000 in
theorem c1744_X9_tempo (l : Launch) (g : gG) (q1 q16 q20 q23 q31 q36 : Nat) (x2 : Int32) (w6 w7 w8 w9 w10 w11 w12 w13 w14 w15 w19 w24 w26 w27 w28 w29 w30 w32 w35 : Value) (f21 : Nat → Option Nat) (f37 : Nat → Int32) (hf22 : f21 0 = some q23) (hf38 : f37 0 = 100) (h3 : (0 : Int32) ≤ x2) (h4 : x2 ≤ 30000) (sz : Nat) : Met l yX9_tempo [Cond.code yX9_tempo cX9_tempo 2 (some .int)] ({ frames := 2, cells := 0, slots := 0, locals := 44 } : Room) (va_Pc [.ref q1, .int x2] (PX g sz [(q36, .inl (g.2 0, 10, .inl f37)), (q31, .inr (9, [w32, .ref q36, .int 1, w35])), (q23, .inr (8, [w24, .ref q31, w26, w27, w28, w29, w30])), (q20, .inl (g.2 3, 10, .inr (.inr (.inr (.inr f21))))), (q16, .inr (10, [.ref q20, .int 0, w19])), (q1, .inr (11, [.ref q16, w6, w7, w8, w9, w10, w11, w12, w13, w14, w15]))])) (QI g [(q36, .inl (g.2 0, 10, .inl f37)), (q31, .inr (9, [w32, .ref q36, .int 1, w35])), (q23, .inr (8, [w24, .ref q31, w26, w27, w28, w29, w30])), (q20, .inl (g.2 3, 10, .inr (.inr (.inr (.inr f21))))), (q16, .inr (10, [.ref q20, .int 0, w19])), (q1, .inr (11, [.ref q16, w6, w7, w8, w9, w10, w11, w12, w13, w14, w15]))] sz 100 (fun _ => [(q23, .inr (8, [w24, .ref q31, w26, w27, w28, w29, w30])), (q1, .inr (11, [.ref q16, w6, w7, w8, w9, w10, w11, w12, w13, w14, w15])), (q20, .inl (g.2 3, 10, .inr (.inr (.inr (.inr f21))))), (q16, .inr (10, [.ref q20, .int 0, w19])), (q36, .inl (g.2 0, 10, .inl f37)), (q31, .inr (9, [w32, .ref q36, .int 1, w35]))])) 0 0 (va_A [(q36, .inl (g.2 0, 10, .inl f37)), (q31, .inr (9, [w32, .ref q36, .int 1, w35])), (q23, .inr (8, [w24, .ref q31, w26, w27, w28, w29, w30])), (q20, .inl (g.2 3, 10, .inr (.inr (.inr (.inr f21))))), (q16, .inr (10, [.ref q20, .int 0, w19])), (q1, .inr (11, [.ref q16, w6, w7, w8, w9, w10, w11, w12, w13, w14, w15]))] sz) := by
  refine ofN (by decide) (Nat.le_of_ble_eq_true rfl) rfl ?_
  intro p e s m args below meth c A ls hAe hsz hx hb hml hr hlocks hin hown hE hP hD hA hS hl
  have hown : s.vm.findClass RX9 = some m.cls := hown
  refine lv_iload_n hx hb dX9_tempo_0 rfl (lv_at hl 1 rfl) ?_
  refine lv_iconst (v := 0) hx hb dX9_tempo_1 (by decide) ?_
  refine lv_sipush (v := 30000) hx hb dX9_tempo_2 (by decide) ?_
  refine g0_v (rS (rest := []) hx hb hml hown hE hP hD (c1699_X9_requireRange l g x2 h3 h4 s.heap.size) (kS_X9_requireRange hE (e636 hE) rfl rfl ⟨(Nat.le_of_ble_eq_true rfl), (Nat.le_of_ble_eq_true rfl)⟩) [] rfl (by decide) rfl hl.1 rfl (lv_room (Nat.le_of_ble_eq_true rfl)) dX9_tempo_5 ⟨(Nat.le_of_ble_eq_true rfl), (Nat.le_of_ble_eq_true rfl)⟩) hP hD hS hA (fun u9 H locs hP hS => ?_)
  refine lv_aload_n hx hb dX9_tempo_8 rfl (lv_at hl 0 rfl) ?_
  refine gf_RX9_12 hx hb hown hE hP 5 rfl rfl dX9_tempo_9 ?_
  refine g_r (wr := [(q36, .inl (g.2 0, 10, .inl f37)), (q31, .inr (9, [w32, .ref q36, .int 1, w35])), (q23, .inr (8, [w24, .ref q31, w26, w27, w28, w29, w30])), (q1, .inr (11, [.ref q16, w6, w7, w8, w9, w10, w11, w12, w13, w14, w15]))]) (rV (rest := []) hx hb hml hown hE hP hD 4 rfl rfl (c71_X8_current l g q16 q20 q23 w19 f21 (hf22) H.size) (kV_X8_current hE (e290 hE) rfl rfl ⟨(Nat.le_of_ble_eq_true rfl), (Nat.le_of_ble_eq_true rfl)⟩) [3, 4] rfl (by decide) rfl hl.1 rfl (lv_room (Nat.le_of_ble_eq_true rfl)) dX9_tempo_12 ⟨(Nat.le_of_ble_eq_true rfl), (Nat.le_of_ble_eq_true rfl)⟩) hP hD hS hA [3, 4] [0, 1, 2, 5] rfl rfl (by decide) (by decide) (fun u2 H locs hP hD hS => ?_)
  have hP : va_P g.1 vwCl [(q36, .inl (g.2 0, 10, .inl f37)), (q31, .inr (9, [w32, .ref q36, .int 1, w35])), (q23, .inr (8, [w24, .ref q31, w26, w27, w28, w29, w30])), (q1, .inr (11, [.ref q16, w6, w7, w8, w9, w10, w11, w12, w13, w14, w15])), (q20, .inl (g.2 3, 10, .inr (.inr (.inr (.inr f21))))), (q16, .inr (10, [.ref q20, .int 0, w19]))] H := hP
  have hD : va_D A [(q36, .inl (g.2 0, 10, .inl f37)), (q31, .inr (9, [w32, .ref q36, .int 1, w35])), (q23, .inr (8, [w24, .ref q31, w26, w27, w28, w29, w30])), (q1, .inr (11, [.ref q16, w6, w7, w8, w9, w10, w11, w12, w13, w14, w15])), (q20, .inl (g.2 3, 10, .inr (.inr (.inr (.inr f21))))), (q16, .inr (10, [.ref q20, .int 0, w19]))] := hD
  refine gf_RX9_193 hx hb hown hE hP 2 rfl rfl dX9_tempo_15 ?_
  refine lv_iload_n hx hb dX9_tempo_18 rfl (lv_at hl 1 rfl) ?_
  refine g_i (wr := [(q23, .inr (8, [w24, .ref q31, w26, w27, w28, w29, w30])), (q1, .inr (11, [.ref q16, w6, w7, w8, w9, w10, w11, w12, w13, w14, w15])), (q20, .inl (g.2 3, 10, .inr (.inr (.inr (.inr f21))))), (q16, .inr (10, [.ref q20, .int 0, w19]))]) (rV (rest := []) hx hb hml hown hE hP hD 1 rfl rfl (c1743_X7_paceAt l g q31 q36 x2 w32 w35 f37 (hf38) H.size) (kV_X7_paceAt hE (e942 hE) rfl rfl ⟨(Nat.le_of_ble_eq_true rfl), (Nat.le_of_ble_eq_true rfl)⟩) [0, 1] rfl (by decide) rfl hl.1 rfl (lv_room (Nat.le_of_ble_eq_true rfl)) dX9_tempo_19 ⟨(Nat.le_of_ble_eq_true rfl), (Nat.le_of_ble_eq_true rfl)⟩) hP hD hS hA [0, 1] [2, 3, 4, 5] rfl rfl (by decide) (by decide) (fun u3 H locs hP hD hS => ?_)
  have hP : va_P g.1 vwCl [(q23, .inr (8, [w24, .ref q31, w26, w27, w28, w29, w30])), (q1, .inr (11, [.ref q16, w6, w7, w8, w9, w10, w11, w12, w13, w14, w15])), (q20, .inl (g.2 3, 10, .inr (.inr (.inr (.inr f21))))), (q16, .inr (10, [.ref q20, .int 0, w19])), (q36, .inl (g.2 0, 10, .inl f37)), (q31, .inr (9, [w32, .ref q36, .int 1, w35]))] H := hP
  have hD : va_D A [(q23, .inr (8, [w24, .ref q31, w26, w27, w28, w29, w30])), (q1, .inr (11, [.ref q16, w6, w7, w8, w9, w10, w11, w12, w13, w14, w15])), (q20, .inl (g.2 3, 10, .inr (.inr (.inr (.inr f21))))), (q16, .inr (10, [.ref q20, .int 0, w19])), (q36, .inl (g.2 0, 10, .inl f37)), (q31, .inr (9, [w32, .ref q36, .int 1, w35]))] := hD
  exact x_zret hx hb hr rfl rfl hlocks hP hD hS hAe hsz (Nat.le_of_ble_eq_true rfl) (Nat.le_of_ble_eq_true rfl) (fun _ => 0) [0, 1, 2, 3, 4, 5] (by decide) rfl dX9_tempo_22

set_option maxHeartbeats 4000000 in
set_option maxRecDepth 100000 in
theorem c1745_L_tempo (l : Launch) (g : gG) (hlx : l.stackTraces = false) (q1 q3 q17 q21 q24 q32 q37 : Nat) (x2 : Int32) (w7 w8 w9 w10 w11 w12 w13 w14 w15 w16 w20 w25 w27 w28 w29 w30 w31 w33 w36 : Value) (f22 : Nat → Option Nat) (f38 : Nat → Int32) (f40 : Nat → Int64) (hf23 : f22 0 = some q24) (hf39 : f38 0 = 100) (h4 : (0 : Int32) ≤ x2) (h5 : x2 ≤ 30000) (sz : Nat) : Met l yL_tempo [Cond.codeWith yL_tempo cL_tempo 4 (some .int) [(0, 9, 12, 15)]] ({ frames := 3, cells := 0, slots := 0, locals := 65 } : Room) (va_Pc [.ref q1, .int x2, .ref q3] (PZ g sz [(q3, .inl (g.2 1, 1, .inr (.inl f40))), (q37, .inl (g.2 0, 10, .inl f38)), (q32, .inr (9, [w33, .ref q37, .int 1, w36])), (q24, .inr (8, [w25, .ref q32, w27, w28, w29, w30, w31])), (q21, .inl (g.2 3, 10, .inr (.inr (.inr (.inr f22))))), (q17, .inr (10, [.ref q21, .int 0, w20])), (q1, .inr (11, [.ref q17, w7, w8, w9, w10, w11, w12, w13, w14, w15, w16]))])) (QI g [(q3, .inl (g.2 1, 1, .inr (.inl f40))), (q37, .inl (g.2 0, 10, .inl f38)), (q32, .inr (9, [w33, .ref q37, .int 1, w36])), (q24, .inr (8, [w25, .ref q32, w27, w28, w29, w30, w31])), (q21, .inl (g.2 3, 10, .inr (.inr (.inr (.inr f22))))), (q17, .inr (10, [.ref q21, .int 0, w20])), (q1, .inr (11, [.ref q17, w7, w8, w9, w10, w11, w12, w13, w14, w15, w16]))] sz 0 (fun _ => [(q3, .inl (g.2 1, 1, .inr (.inl (vp_updL f40 0 100))))])) 0 0 (va_A [(q3, .inl (g.2 1, 1, .inr (.inl f40))), (q37, .inl (g.2 0, 10, .inl f38)), (q32, .inr (9, [w33, .ref q37, .int 1, w36])), (q24, .inr (8, [w25, .ref q32, w27, w28, w29, w30, w31])), (q21, .inl (g.2 3, 10, .inr (.inr (.inr (.inr f22))))), (q17, .inr (10, [.ref q21, .int 0, w20])), (q1, .inr (11, [.ref q17, w7, w8, w9, w10, w11, w12, w13, w14, w15, w16]))] sz) := by
  refine ofH (by decide) (Nat.le_of_ble_eq_true rfl) rfl ?_
  intro p e s m args below meth c A ls hAe hsz hx hb hml hr hlocks hin hown hE hP hD hA hS hl htb hz
  have hown : s.vm.findClass RL = some m.cls := hown
  refine lv_aload_n hx hb dL_tempo_0 rfl (lv_at hl 2 rfl) ?_
  refine lv_iconst (v := 0) hx hb dL_tempo_1 (by decide) ?_
  refine lv_aload_n hx hb dL_tempo_2 rfl (lv_at hl 0 rfl) ?_
  refine lv_iload_n hx hb dL_tempo_3 rfl (lv_at hl 1 rfl) ?_
  refine g_i (wr := [(q3, .inl (g.2 1, 1, .inr (.inl f40)))]) (rV (rest := [.int 0, .ref q3]) hx hb hml hown hE hP hD 6 rfl rfl (c1744_X9_tempo l g q1 q17 q21 q24 q32 q37 x2 w7 w8 w9 w10 w11 w12 w13 w14 w15 w16 w20 w25 w27 w28 w29 w30 w31 w33 w36 f22 f38 (hf23) (hf39) h4 h5 s.heap.size) (kV_X9_tempo hE (e938 hE) rfl rfl ⟨(Nat.le_of_ble_eq_true rfl), (Nat.le_of_ble_eq_true rfl)⟩) [1, 2, 3, 4, 5, 6] rfl (by decide) rfl hl.1 rfl (lv_room (Nat.le_of_ble_eq_true rfl)) dL_tempo_4 ⟨(Nat.le_of_ble_eq_true rfl), (Nat.le_of_ble_eq_true rfl)⟩) hP hD hS hA [1, 2, 3, 4, 5, 6] [0] rfl rfl (by decide) (by decide) (fun u1 H locs hP hD hS => ?_)
  have hP : va_P g.1 vwCl [(q3, .inl (g.2 1, 1, .inr (.inl f40))), (q24, .inr (8, [w25, .ref q32, w27, w28, w29, w30, w31])), (q1, .inr (11, [.ref q17, w7, w8, w9, w10, w11, w12, w13, w14, w15, w16])), (q21, .inl (g.2 3, 10, .inr (.inr (.inr (.inr f22))))), (q17, .inr (10, [.ref q21, .int 0, w20])), (q37, .inl (g.2 0, 10, .inl f38)), (q32, .inr (9, [w33, .ref q37, .int 1, w36]))] H := hP
  have hD : va_D A [(q3, .inl (g.2 1, 1, .inr (.inl f40))), (q24, .inr (8, [w25, .ref q32, w27, w28, w29, w30, w31])), (q1, .inr (11, [.ref q17, w7, w8, w9, w10, w11, w12, w13, w14, w15, w16])), (q21, .inl (g.2 3, 10, .inr (.inr (.inr (.inr f22))))), (q17, .inr (10, [.ref q21, .int 0, w20])), (q37, .inl (g.2 0, 10, .inl f38)), (q32, .inr (9, [w33, .ref q37, .int 1, w36]))] := hD
  refine lv_i2l (v := 100) hx hb dL_tempo_7 (by decide) ?_
  refine x_last (ws' := [(q3, .inl (g.2 1, 1, .inr (.inl (vp_updL f40 0 100)))), (q24, .inr (8, [w25, .ref q32, w27, w28, w29, w30, w31])), (q1, .inr (11, [.ref q17, w7, w8, w9, w10, w11, w12, w13, w14, w15, w16])), (q21, .inl (g.2 3, 10, .inr (.inr (.inr (.inr f22))))), (q17, .inr (10, [.ref q21, .int 0, w20])), (q37, .inl (g.2 0, 10, .inl f38)), (q32, .inr (9, [w33, .ref q37, .int 1, w36]))]) hx hb hE hP hD hS 0 rfl 0 (x_in (by decide)) (by decide) dL_tempo_8 rfl (fun H locs hP hD hS => ?_)
  refine lv_goto (tgt := 15) hx hb dL_tempo_9 (by decide) ?_
  refine lv_iconst (v := 0) hx hb dL_tempo_15 (by decide) ?_
  exact x_zret hx hb hr rfl rfl hlocks hP hD hS hAe hsz (Nat.le_of_ble_eq_true rfl) (Nat.le_of_ble_eq_true rfl) (fun _ => 0) [0] (by decide) rfl dL_tempo_16

set_option maxHeartbeats 4000000 in
set_option maxRecDepth 100000 in
theorem c1746_X10_tempoAt (l : Launch) (g : gG) (q1 q40 : Nat) (x2 : Int32) (w4 w5 w6 w7 w8 w9 w10 w11 w12 w13 w14 w15 w16 w17 w18 w19 w20 w21 w22 w23 w24 w25 w26 w27 w28 w29 w30 w31 w32 w33 w34 w35 w36 w37 w38 w39 : Value) (f41 : Nat → Int32) (hf42 : f41 453 = 1) (hf43 : f41 454 = 0) (hf45 : f41 455 = 100) (h44 : (0 : Int32) ≤ x2) (sz : Nat) : Met l yX10_tempoAt [Cond.code yX10_tempoAt cX10_tempoAt 4 (some .int)] ({ frames := 0, cells := 0, slots := 0, locals := 0 } : Room) (va_Pc [.ref q1, .int x2] (PX g sz [(q40, .inl (g.2 0, 497, .inl f41)), (q1, .inr (12, [.ref q40, w4, w5, w6, w7, w8, w9, w10, w11, w12, w13, w14, w15, w16, w17, w18, w19, w20, w21, w22, w23, w24, w25, w26, w27, w28, w29, w30, w31, w32, w33, w34, w35, w36, w37, w38, w39]))])) (QI g [(q40, .inl (g.2 0, 497, .inl f41)), (q1, .inr (12, [.ref q40, w4, w5, w6, w7, w8, w9, w10, w11, w12, w13, w14, w15, w16, w17, w18, w19, w20, w21, w22, w23, w24, w25, w26, w27, w28, w29, w30, w31, w32, w33, w34, w35, w36, w37, w38, w39]))] sz 100 (fun _ => [(q40, .inl (g.2 0, 497, .inl f41)), (q1, .inr (12, [.ref q40, w4, w5, w6, w7, w8, w9, w10, w11, w12, w13, w14, w15, w16, w17, w18, w19, w20, w21, w22, w23, w24, w25, w26, w27, w28, w29, w30, w31, w32, w33, w34, w35, w36, w37, w38, w39]))])) 0 0 (va_A [(q40, .inl (g.2 0, 497, .inl f41)), (q1, .inr (12, [.ref q40, w4, w5, w6, w7, w8, w9, w10, w11, w12, w13, w14, w15, w16, w17, w18, w19, w20, w21, w22, w23, w24, w25, w26, w27, w28, w29, w30, w31, w32, w33, w34, w35, w36, w37, w38, w39]))] sz) := by
  refine ofN (by decide) (Nat.le_of_ble_eq_true rfl) rfl ?_
  intro p e s m args below meth c A ls hAe hsz hx hb hml hr hlocks hin hown hE hP hD hA hS hl
  have hown : s.vm.findClass RX10 = some m.cls := hown
  refine lv_iconst (v := 0) hx hb dX10_tempoAt_0 (by decide) ?_
  refine lv_istore_n (lv' := [(2, .int 0), (0, .ref q1), (1, .int x2)]) hx hb dX10_tempoAt_1 rfl hl (by decide) rfl (fun ls hl => ?_)
  refine lv_iconst (v := 0) hx hb dX10_tempoAt_2 (by decide) ?_
  refine lv_istore_n (lv' := [(3, .int 0), (2, .int 0), (0, .ref q1), (1, .int x2)]) hx hb dX10_tempoAt_3 rfl hl (by decide) rfl (fun ls hl => ?_)
  refine lv_iload_n hx hb dX10_tempoAt_4 rfl (lv_at hl 0 rfl) ?_
  refine lv_aload_n hx hb dX10_tempoAt_5 rfl (lv_at hl 2 rfl) ?_
  refine gf_RX10_9 hx hb hown hE hP 1 rfl rfl dX10_tempoAt_6 ?_
  refine lv_sipush (v := 453) hx hb dX10_tempoAt_9 (by decide) ?_
  refine x_iald (v := 1) hx hb hE hP 0 rfl 453 (x_in (by decide)) (by decide) hf42 dX10_tempoAt_12 ?_
  refine lv_icmp_ge (tgt := 57) hx hb dX10_tempoAt_13 (by decide) (fun h => absurd h (by decide)) (fun _ => ?_)
  refine lv_aload_n hx hb dX10_tempoAt_16 rfl (lv_at hl 2 rfl) ?_
  refine gf_RX10_9 hx hb hown hE hP 1 rfl rfl dX10_tempoAt_17 ?_
  refine lv_sipush (v := 454) hx hb dX10_tempoAt_20 (by decide) ?_
  refine lv_iconst (v := 2) hx hb dX10_tempoAt_23 (by decide) ?_
  refine lv_iload_n hx hb dX10_tempoAt_24 rfl (lv_at hl 0 rfl) ?_
  refine x_imul (v := 0) hx hb dX10_tempoAt_25 (by decide) ?_
  refine x_iadd (v := 454) hx hb dX10_tempoAt_26 (by decide) ?_
  refine x_iald (v := 0) hx hb hE hP 0 rfl 454 (x_in (by decide)) (by decide) hf43 dX10_tempoAt_27 ?_
  refine lv_iload_n hx hb dX10_tempoAt_28 rfl (lv_at hl 3 rfl) ?_
  refine lv_icmp_gt (tgt := 49) hx hb dX10_tempoAt_29 (by decide) (fun h => absurd h (i_nlt h44)) (fun _ => ?_)
  refine lv_aload_n hx hb dX10_tempoAt_32 rfl (lv_at hl 2 rfl) ?_
  refine gf_RX10_9 hx hb hown hE hP 1 rfl rfl dX10_tempoAt_33 ?_
  refine lv_sipush (v := 454) hx hb dX10_tempoAt_36 (by decide) ?_
  refine lv_iconst (v := 2) hx hb dX10_tempoAt_39 (by decide) ?_
  refine lv_iload_n hx hb dX10_tempoAt_40 rfl (lv_at hl 0 rfl) ?_
  refine x_imul (v := 0) hx hb dX10_tempoAt_41 (by decide) ?_
  refine x_iadd (v := 454) hx hb dX10_tempoAt_42 (by decide) ?_
  refine lv_iconst (v := 1) hx hb dX10_tempoAt_43 (by decide) ?_
  refine x_iadd (v := 455) hx hb dX10_tempoAt_44 (by decide) ?_
  refine x_iald (v := 100) hx hb hE hP 0 rfl 455 (x_in (by decide)) (by decide) hf45 dX10_tempoAt_45 ?_
  refine lv_goto (tgt := 50) hx hb dX10_tempoAt_46 (by decide) ?_
  refine lv_istore_n (lv' := [(2, .int 100), (3, .int 0), (0, .ref q1), (1, .int x2)]) hx hb dX10_tempoAt_50 rfl hl (by decide) rfl (fun ls hl => ?_)
  refine lv_iinc (v := 1) (lv' := [(3, .int 1), (2, .int 100), (0, .ref q1), (1, .int x2)]) hx hb dX10_tempoAt_51 hl (k := 1) rfl (by decide) (by decide) rfl (fun ls hl => ?_)
  refine lv_goto (tgt := 4) hx hb dX10_tempoAt_54 (by decide) ?_
  refine lv_iload_n hx hb dX10_tempoAt_4 rfl (lv_at hl 0 rfl) ?_
  refine lv_aload_n hx hb dX10_tempoAt_5 rfl (lv_at hl 2 rfl) ?_
  refine gf_RX10_9 hx hb hown hE hP 1 rfl rfl dX10_tempoAt_6 ?_
  refine lv_sipush (v := 453) hx hb dX10_tempoAt_9 (by decide) ?_
  refine x_iald (v := 1) hx hb hE hP 0 rfl 453 (x_in (by decide)) (by decide) hf42 dX10_tempoAt_12 ?_
  refine lv_icmp_ge (tgt := 57) hx hb dX10_tempoAt_13 (by decide) (fun _ => ?_) (fun h => absurd (by decide) h)
  refine lv_iload_n hx hb dX10_tempoAt_57 rfl (lv_at hl 1 rfl) ?_
  exact x_zret hx hb hr rfl rfl hlocks hP hD hS hAe hsz (Nat.le_of_ble_eq_true rfl) (Nat.le_of_ble_eq_true rfl) (fun _ => 0) [0, 1] (by decide) rfl dX10_tempoAt_58

set_option maxHeartbeats 4000000 in
set_option maxRecDepth 100000 in
theorem c1747_X10_tempo (l : Launch) (g : gG) (q1 q42 : Nat) (x2 : Int32) (w6 w7 w8 w9 w10 w11 w12 w13 w14 w15 w16 w17 w18 w19 w20 w21 w22 w23 w24 w25 w26 w27 w28 w29 w30 w31 w32 w33 w34 w35 w36 w37 w38 w39 w40 w41 : Value) (f43 : Nat → Int32) (hf44 : f43 453 = 1) (hf45 : f43 454 = 0) (hf46 : f43 455 = 100) (h3 : (0 : Int32) ≤ x2) (h4 : x2 ≤ 30000) (sz : Nat) : Met l yX10_tempo [Cond.code yX10_tempo cX10_tempo 2 (some .int)] ({ frames := 1, cells := 0, slots := 0, locals := 23 } : Room) (va_Pc [.ref q1, .int x2] (PX g sz [(q42, .inl (g.2 0, 497, .inl f43)), (q1, .inr (12, [.ref q42, w6, w7, w8, w9, w10, w11, w12, w13, w14, w15, w16, w17, w18, w19, w20, w21, w22, w23, w24, w25, w26, w27, w28, w29, w30, w31, w32, w33, w34, w35, w36, w37, w38, w39, w40, w41]))])) (QI g [(q42, .inl (g.2 0, 497, .inl f43)), (q1, .inr (12, [.ref q42, w6, w7, w8, w9, w10, w11, w12, w13, w14, w15, w16, w17, w18, w19, w20, w21, w22, w23, w24, w25, w26, w27, w28, w29, w30, w31, w32, w33, w34, w35, w36, w37, w38, w39, w40, w41]))] sz 100 (fun _ => [(q1, .inr (12, [.ref q42, w6, w7, w8, w9, w10, .int 0, w12, w13, w14, w15, w16, w17, w18, w19, w20, w21, w22, w23, w24, w25, w26, w27, w28, w29, w30, w31, w32, w33, w34, w35, w36, w37, w38, w39, w40, w41]))])) 0 0 (va_A [(q42, .inl (g.2 0, 497, .inl f43)), (q1, .inr (12, [.ref q42, w6, w7, w8, w9, w10, w11, w12, w13, w14, w15, w16, w17, w18, w19, w20, w21, w22, w23, w24, w25, w26, w27, w28, w29, w30, w31, w32, w33, w34, w35, w36, w37, w38, w39, w40, w41]))] sz) := by
  refine ofN (by decide) (Nat.le_of_ble_eq_true rfl) rfl ?_
  intro p e s m args below meth c A ls hAe hsz hx hb hml hr hlocks hin hown hE hP hD hA hS hl
  have hown : s.vm.findClass RX10 = some m.cls := hown
  refine lv_aload_n hx hb dX10_tempo_0 rfl (lv_at hl 0 rfl) ?_
  refine lv_iload_n hx hb dX10_tempo_1 rfl (lv_at hl 1 rfl) ?_
  refine lv_iconst (v := 0) hx hb dX10_tempo_2 (by decide) ?_
  refine lv_sipush (v := 30000) hx hb dX10_tempo_3 (by decide) ?_
  refine g0_i (rS (rest := [.ref q1]) hx hb hml hown hE hP hD (c1703_X10_in l g x2 h3 h4 s.heap.size) (kS_X10_in hE (e1431 hE) rfl rfl ⟨(Nat.le_of_ble_eq_true rfl), (Nat.le_of_ble_eq_true rfl)⟩) [] rfl (by decide) rfl hl.1 rfl (lv_room (Nat.le_of_ble_eq_true rfl)) dX10_tempo_6 ⟨(Nat.le_of_ble_eq_true rfl), (Nat.le_of_ble_eq_true rfl)⟩) hP hD hS hA (fun u9 H locs hP hS => ?_)
  refine lv_if_eq (tgt := 16) hx hb dX10_tempo_9 (by decide) (fun h => absurd h (by decide)) (fun _ => ?_)
  refine lv_iconst (v := 0) hx hb dX10_tempo_12 (by decide) ?_
  refine lv_goto (tgt := 17) hx hb dX10_tempo_13 (by decide) ?_
  refine pf_RX10_86 (ws' := [(q42, .inl (g.2 0, 497, .inl f43)), (q1, .inr (12, [.ref q42, w6, w7, w8, w9, w10, .int 0, w12, w13, w14, w15, w16, w17, w18, w19, w20, w21, w22, w23, w24, w25, w26, w27, w28, w29, w30, w31, w32, w33, w34, w35, w36, w37, w38, w39, w40, w41]))]) hx hb hown hE hP hD hS 1 rfl rfl rfl (Nat.le_of_ble_eq_true rfl) dX10_tempo_17 rfl (fun H locs hP hD hS => ?_)
  refine lv_aload_n hx hb dX10_tempo_20 rfl (lv_at hl 0 rfl) ?_
  refine gf_RX10_86 hx hb hown hE hP 1 rfl rfl dX10_tempo_21 ?_
  refine lv_if_le (tgt := 31) hx hb dX10_tempo_24 (by decide) (fun _ => ?_) (fun h => absurd (by decide) h)
  refine lv_aload_n hx hb dX10_tempo_31 rfl (lv_at hl 0 rfl) ?_
  refine lv_iload_n hx hb dX10_tempo_32 rfl (lv_at hl 1 rfl) ?_
  refine g_i (wr := []) (rV (rest := []) hx hb hml hown hE hP hD 1 rfl rfl (c1746_X10_tempoAt l g q1 q42 x2 w6 w7 w8 w9 w10 (.int 0) w12 w13 w14 w15 w16 w17 w18 w19 w20 w21 w22 w23 w24 w25 w26 w27 w28 w29 w30 w31 w32 w33 w34 w35 w36 w37 w38 w39 w40 w41 f43 (hf44) (hf45) (hf46) h3 H.size) (kV_X10_tempoAt hE (e1555 hE) rfl rfl ⟨(Nat.le_of_ble_eq_true rfl), (Nat.le_of_ble_eq_true rfl)⟩) [0, 1] rfl (by decide) rfl hl.1 rfl (lv_room (Nat.le_of_ble_eq_true rfl)) dX10_tempo_33 ⟨(Nat.le_of_ble_eq_true rfl), (Nat.le_of_ble_eq_true rfl)⟩) hP hD hS hA [0, 1] [] rfl rfl (by decide) (by decide) (fun u2 H locs hP hD hS => ?_)
  have hP : va_P g.1 vwCl [(q42, .inl (g.2 0, 497, .inl f43)), (q1, .inr (12, [.ref q42, w6, w7, w8, w9, w10, .int 0, w12, w13, w14, w15, w16, w17, w18, w19, w20, w21, w22, w23, w24, w25, w26, w27, w28, w29, w30, w31, w32, w33, w34, w35, w36, w37, w38, w39, w40, w41]))] H := hP
  have hD : va_D A [(q42, .inl (g.2 0, 497, .inl f43)), (q1, .inr (12, [.ref q42, w6, w7, w8, w9, w10, .int 0, w12, w13, w14, w15, w16, w17, w18, w19, w20, w21, w22, w23, w24, w25, w26, w27, w28, w29, w30, w31, w32, w33, w34, w35, w36, w37, w38, w39, w40, w41]))] := hD
  exact x_zret hx hb hr rfl rfl hlocks hP hD hS hAe hsz (Nat.le_of_ble_eq_true rfl) (Nat.le_of_ble_eq_true rfl) (fun _ => 0) [1] (by decide) rfl dX10_tempo_36

set_option maxHeartbeats 4000000 in
set_option maxRecDepth 100000 in
theorem c1748_X9_tempo (l : Launch) (g : gG) (hlx : l.stackTraces = false) (q1 : Nat) (x2 : Int32) (h3 : (0 : Int32) ≤ x2) (h4 : (30000 : Int32) < x2) (sz : Nat) : vx_Met l yX9_tempo [Cond.code yX9_tempo cX9_tempo 2 (some .int)] ({ frames := 7, cells := 1, slots := 6, locals := 122 } : Room) (va_Pc [.ref q1, .int x2] (PZ g sz [])) NI (XW g [] sz "java/lang/IllegalArgumentException" []) 1 6 (va_A [] sz) := by
  refine ofX (by decide) (Nat.le_of_ble_eq_true rfl) rfl ?_
  intro p e s m args below meth c A ls hAe hsz hx hb hml hr hlocks hin hown hE hP hD hA hS hl hex hz
  have hown : s.vm.findClass RX9 = some m.cls := hown
  refine lv_iload_n hx hb dX9_tempo_0 rfl (lv_at hl 1 rfl) ?_
  refine lv_iconst (v := 0) hx hb dX9_tempo_1 (by decide) ?_
  refine lv_sipush (v := 30000) hx hb dX9_tempo_2 (by decide) ?_
  refine gx_v (wr := []) (rSx (rest := []) hx hb hml hown hE hP hD hS hA hz (c1727_X9_requireRange l g hlx x2 h3 h4 s.heap.size) (kS_X9_requireRange hE (e636 hE) rfl rfl ⟨(Nat.le_of_ble_eq_true rfl), (Nat.le_of_ble_eq_true rfl)⟩) [] rfl (by decide) rfl hl.1 rfl (lv_room (Nat.le_of_ble_eq_true rfl)) dX9_tempo_5 ⟨(Nat.le_of_ble_eq_true rfl), (Nat.le_of_ble_eq_true rfl)⟩) hP hD hS hA [] [] rfl rfl (by decide) (by decide) (fun ce9 q9 H locs hP hD hS hq1 hq2 hq3 => ?_)
  exact x_out hex hlocks hq1 hq2 hq3 hP hD hS hAe hsz (Nat.le_of_ble_eq_true rfl) (Nat.le_of_ble_eq_true rfl) [] (by decide) rfl

set_option maxHeartbeats 4000000 in
set_option maxRecDepth 100000 in
theorem c1749_L_tempo (l : Launch) (g : gG) (hlx : l.stackTraces = false) (q1 q3 q16 q20 q23 q31 q36 : Nat) (x2 : Int32) (w6 w7 w8 w9 w10 w11 w12 w13 w14 w15 w19 w24 w26 w27 w28 w29 w30 w32 w35 : Value) (f21 : Nat → Option Nat) (f37 : Nat → Int32) (hf22 : f21 0 = some q23) (hf38 : f37 0 = 100) (h4 : (0 : Int32) ≤ x2) (h39 : (30000 : Int32) < x2) (sz : Nat) : Met l yL_tempo [Cond.codeWith yL_tempo cL_tempo 4 (some .int) [(0, 9, 12, 15)]] ({ frames := 8, cells := 1, slots := 6, locals := 143 } : Room) (va_Pc [.ref q1, .int x2, .ref q3] (PZ g sz [(q36, .inl (g.2 0, 10, .inl f37)), (q31, .inr (9, [w32, .ref q36, .int 1, w35])), (q23, .inr (8, [w24, .ref q31, w26, w27, w28, w29, w30])), (q20, .inl (g.2 3, 10, .inr (.inr (.inr (.inr f21))))), (q16, .inr (10, [.ref q20, .int 0, w19])), (q1, .inr (11, [.ref q16, w6, w7, w8, w9, w10, w11, w12, w13, w14, w15]))])) (QI g [(q36, .inl (g.2 0, 10, .inl f37)), (q31, .inr (9, [w32, .ref q36, .int 1, w35])), (q23, .inr (8, [w24, .ref q31, w26, w27, w28, w29, w30])), (q20, .inl (g.2 3, 10, .inr (.inr (.inr (.inr f21))))), (q16, .inr (10, [.ref q20, .int 0, w19])), (q1, .inr (11, [.ref q16, w6, w7, w8, w9, w10, w11, w12, w13, w14, w15]))] sz 1 (fun _ => [])) 1 6 (va_A [(q36, .inl (g.2 0, 10, .inl f37)), (q31, .inr (9, [w32, .ref q36, .int 1, w35])), (q23, .inr (8, [w24, .ref q31, w26, w27, w28, w29, w30])), (q20, .inl (g.2 3, 10, .inr (.inr (.inr (.inr f21))))), (q16, .inr (10, [.ref q20, .int 0, w19])), (q1, .inr (11, [.ref q16, w6, w7, w8, w9, w10, w11, w12, w13, w14, w15]))] sz) := by
  refine ofH (by decide) (Nat.le_of_ble_eq_true rfl) rfl ?_
  intro p e s m args below meth c A ls hAe hsz hx hb hml hr hlocks hin hown hE hP hD hA hS hl htb hz
  have hown : s.vm.findClass RL = some m.cls := hown
  refine lv_aload_n hx hb dL_tempo_0 rfl (lv_at hl 2 rfl) ?_
  refine lv_iconst (v := 0) hx hb dL_tempo_1 (by decide) ?_
  refine lv_aload_n hx hb dL_tempo_2 rfl (lv_at hl 0 rfl) ?_
  refine lv_iload_n hx hb dL_tempo_3 rfl (lv_at hl 1 rfl) ?_
  refine gx_i (wr := [(q36, .inl (g.2 0, 10, .inl f37)), (q31, .inr (9, [w32, .ref q36, .int 1, w35])), (q23, .inr (8, [w24, .ref q31, w26, w27, w28, w29, w30])), (q20, .inl (g.2 3, 10, .inr (.inr (.inr (.inr f21))))), (q16, .inr (10, [.ref q20, .int 0, w19])), (q1, .inr (11, [.ref q16, w6, w7, w8, w9, w10, w11, w12, w13, w14, w15]))]) (rVx (rest := [.int 0, .ref q3]) hx hb hml hown hE hP hD hS hA hz 5 rfl rfl (c1748_X9_tempo l g hlx q1 x2 h4 h39 s.heap.size) (kV_X9_tempo hE (e938 hE) rfl rfl ⟨(Nat.le_of_ble_eq_true rfl), (Nat.le_of_ble_eq_true rfl)⟩) [] rfl (by decide) rfl hl.1 rfl (lv_room (Nat.le_of_ble_eq_true rfl)) dL_tempo_4 ⟨(Nat.le_of_ble_eq_true rfl), (Nat.le_of_ble_eq_true rfl)⟩) hP hD hS hA [] [0, 1, 2, 3, 4, 5] rfl rfl (by decide) (by decide) (fun ce9 q9 H locs hP hD hS hq1 hq2 hq3 => ?_)
  have hP : va_P g.1 vwCl [(q36, .inl (g.2 0, 10, .inl f37)), (q31, .inr (9, [w32, .ref q36, .int 1, w35])), (q23, .inr (8, [w24, .ref q31, w26, w27, w28, w29, w30])), (q20, .inl (g.2 3, 10, .inr (.inr (.inr (.inr f21))))), (q16, .inr (10, [.ref q20, .int 0, w19])), (q1, .inr (11, [.ref q16, w6, w7, w8, w9, w10, w11, w12, w13, w14, w15]))] H := hP
  have hD : va_D A [(q36, .inl (g.2 0, 10, .inl f37)), (q31, .inr (9, [w32, .ref q36, .int 1, w35])), (q23, .inr (8, [w24, .ref q31, w26, w27, w28, w29, w30])), (q20, .inl (g.2 3, 10, .inr (.inr (.inr (.inr f21))))), (q16, .inr (10, [.ref q20, .int 0, w19])), (q1, .inr (11, [.ref q16, w6, w7, w8, w9, w10, w11, w12, w13, w14, w15]))] := hD
  refine x_catch (name := "java/lang/IllegalArgumentException") (hh := [(0, 9, 12, 15)]) (tgt := 12) hown htb [] ⟨0, 9, 12, 15⟩ [] rfl (fun _ h => nomatch h) rfl (by decide) (e611 hE) (e641 hE) hq1 hq2 hq3 rfl ?_
  refine lv_astore_n (lv' := [(3, .ref q9), (0, .ref q1), (1, .int x2), (2, .ref q3)]) hx hb dL_tempo_12 rfl hl (by decide) rfl (fun ls hl => ?_)
  refine lv_iconst (v := 1) hx hb dL_tempo_13 (by decide) ?_
  exact x_zret hx hb hr rfl rfl hlocks hP hD hS hAe hsz (Nat.le_of_ble_eq_true rfl) (Nat.le_of_ble_eq_true rfl) (fun _ => 0) [] (by decide) rfl dL_tempo_14

set_option maxHeartbeats 4000000 in
set_option maxRecDepth 100000 in
theorem c1750_X10_tempo (l : Launch) (g : gG) (q1 : Nat) (x2 : Int32) (w5 w6 w7 w8 w9 w10 w11 w12 w13 w14 w15 w16 w17 w18 w19 w20 w21 w22 w23 w24 w25 w26 w27 w28 w29 w30 w31 w32 w33 w34 w35 w36 w37 w38 w39 w40 w41 : Value) (h3 : (0 : Int32) ≤ x2) (h4 : (30000 : Int32) < x2) (sz : Nat) : Met l yX10_tempo [Cond.code yX10_tempo cX10_tempo 2 (some .int)] ({ frames := 1, cells := 0, slots := 0, locals := 22 } : Room) (va_Pc [.ref q1, .int x2] (PX g sz [(q1, .inr (12, [w5, w6, w7, w8, w9, w10, w11, w12, w13, w14, w15, w16, w17, w18, w19, w20, w21, w22, w23, w24, w25, w26, w27, w28, w29, w30, w31, w32, w33, w34, w35, w36, w37, w38, w39, w40, w41]))])) (QI g [(q1, .inr (12, [w5, w6, w7, w8, w9, w10, w11, w12, w13, w14, w15, w16, w17, w18, w19, w20, w21, w22, w23, w24, w25, w26, w27, w28, w29, w30, w31, w32, w33, w34, w35, w36, w37, w38, w39, w40, w41]))] sz 0 (fun _ => [(q1, .inr (12, [w5, w6, w7, w8, w9, w10, .int 1, w12, w13, w14, w15, w16, w17, w18, w19, w20, w21, w22, w23, w24, w25, w26, w27, w28, w29, w30, w31, w32, w33, w34, w35, w36, w37, w38, w39, w40, w41]))])) 0 0 (va_A [(q1, .inr (12, [w5, w6, w7, w8, w9, w10, w11, w12, w13, w14, w15, w16, w17, w18, w19, w20, w21, w22, w23, w24, w25, w26, w27, w28, w29, w30, w31, w32, w33, w34, w35, w36, w37, w38, w39, w40, w41]))] sz) := by
  refine ofN (by decide) (Nat.le_of_ble_eq_true rfl) rfl ?_
  intro p e s m args below meth c A ls hAe hsz hx hb hml hr hlocks hin hown hE hP hD hA hS hl
  have hown : s.vm.findClass RX10 = some m.cls := hown
  refine lv_aload_n hx hb dX10_tempo_0 rfl (lv_at hl 0 rfl) ?_
  refine lv_iload_n hx hb dX10_tempo_1 rfl (lv_at hl 1 rfl) ?_
  refine lv_iconst (v := 0) hx hb dX10_tempo_2 (by decide) ?_
  refine lv_sipush (v := 30000) hx hb dX10_tempo_3 (by decide) ?_
  refine g0_i (rS (rest := [.ref q1]) hx hb hml hown hE hP hD (c1730_X10_in l g x2 h3 h4 s.heap.size) (kS_X10_in hE (e1431 hE) rfl rfl ⟨(Nat.le_of_ble_eq_true rfl), (Nat.le_of_ble_eq_true rfl)⟩) [] rfl (by decide) rfl hl.1 rfl (lv_room (Nat.le_of_ble_eq_true rfl)) dX10_tempo_6 ⟨(Nat.le_of_ble_eq_true rfl), (Nat.le_of_ble_eq_true rfl)⟩) hP hD hS hA (fun u9 H locs hP hS => ?_)
  refine lv_if_eq (tgt := 16) hx hb dX10_tempo_9 (by decide) (fun _ => ?_) (fun h => absurd (by decide) h)
  refine lv_iconst (v := 1) hx hb dX10_tempo_16 (by decide) ?_
  refine pf_RX10_86 (ws' := [(q1, .inr (12, [w5, w6, w7, w8, w9, w10, .int 1, w12, w13, w14, w15, w16, w17, w18, w19, w20, w21, w22, w23, w24, w25, w26, w27, w28, w29, w30, w31, w32, w33, w34, w35, w36, w37, w38, w39, w40, w41]))]) hx hb hown hE hP hD hS 0 rfl rfl rfl (Nat.le_of_ble_eq_true rfl) dX10_tempo_17 rfl (fun H locs hP hD hS => ?_)
  refine lv_aload_n hx hb dX10_tempo_20 rfl (lv_at hl 0 rfl) ?_
  refine gf_RX10_86 hx hb hown hE hP 0 rfl rfl dX10_tempo_21 ?_
  refine lv_if_le (tgt := 31) hx hb dX10_tempo_24 (by decide) (fun h => absurd h (by decide)) (fun _ => ?_)
  refine lv_iconst (v := 0) hx hb dX10_tempo_27 (by decide) ?_
  refine lv_goto (tgt := 36) hx hb dX10_tempo_28 (by decide) ?_
  exact x_zret hx hb hr rfl rfl hlocks hP hD hS hAe hsz (Nat.le_of_ble_eq_true rfl) (Nat.le_of_ble_eq_true rfl) (fun _ => 0) [0] (by decide) rfl dX10_tempo_36

set_option maxHeartbeats 4000000 in
set_option maxRecDepth 100000 in
theorem c1751_X9_place (l : Launch) (g : gG) (hlx : l.stackTraces = false) (q1 q14 q18 q21 q29 : Nat) (x2 : Int32) (w4 w5 w6 w7 w8 w9 w10 w11 w12 w13 w17 w22 w24 w25 w26 w27 w28 : Value) (f19 : Nat → Option Nat) (hf20 : f19 0 = some q21) (h30 : x2 < 0) (sz : Nat) : vx_Met l yX9_place [Cond.code yX9_place cX9_place 3 (some .int)] ({ frames := 6, cells := 1, slots := 6, locals := 100 } : Room) (va_Pc [.ref q1, .int x2] (PZ g sz [(q21, .inr (8, [w22, .ref q29, w24, w25, w26, w27, w28])), (q18, .inl (g.2 3, 10, .inr (.inr (.inr (.inr f19))))), (q14, .inr (10, [.ref q18, .int 0, w17])), (q1, .inr (11, [.ref q14, w4, w5, w6, w7, w8, w9, w10, w11, w12, w13]))])) NI (XW g [(q21, .inr (8, [w22, .ref q29, w24, w25, w26, w27, w28])), (q18, .inl (g.2 3, 10, .inr (.inr (.inr (.inr f19))))), (q14, .inr (10, [.ref q18, .int 0, w17])), (q1, .inr (11, [.ref q14, w4, w5, w6, w7, w8, w9, w10, w11, w12, w13]))] sz "java/util/NoSuchElementException" [(q21, .inr (8, [w22, .ref q29, w24, w25, w26, w27, w28])), (q1, .inr (11, [.ref q14, w4, w5, w6, w7, w8, w9, w10, w11, w12, w13])), (q18, .inl (g.2 3, 10, .inr (.inr (.inr (.inr f19))))), (q14, .inr (10, [.ref q18, .int 0, w17]))]) 1 6 (va_A [(q21, .inr (8, [w22, .ref q29, w24, w25, w26, w27, w28])), (q18, .inl (g.2 3, 10, .inr (.inr (.inr (.inr f19))))), (q14, .inr (10, [.ref q18, .int 0, w17])), (q1, .inr (11, [.ref q14, w4, w5, w6, w7, w8, w9, w10, w11, w12, w13]))] sz) := by
  refine ofX (by decide) (Nat.le_of_ble_eq_true rfl) rfl ?_
  intro p e s m args below meth c A ls hAe hsz hx hb hml hr hlocks hin hown hE hP hD hA hS hl hex hz
  have hown : s.vm.findClass RX9 = some m.cls := hown
  refine lv_aload_n hx hb dX9_place_0 rfl (lv_at hl 0 rfl) ?_
  refine gf_RX9_12 hx hb hown hE hP 3 rfl rfl dX9_place_1 ?_
  refine g_r (wr := [(q21, .inr (8, [w22, .ref q29, w24, w25, w26, w27, w28])), (q1, .inr (11, [.ref q14, w4, w5, w6, w7, w8, w9, w10, w11, w12, w13]))]) (rV (rest := []) hx hb hml hown hE hP hD 2 rfl rfl (c71_X8_current l g q14 q18 q21 w17 f19 (hf20) s.heap.size) (kV_X8_current hE (e290 hE) rfl rfl ⟨(Nat.le_of_ble_eq_true rfl), (Nat.le_of_ble_eq_true rfl)⟩) [1, 2] rfl (by decide) rfl hl.1 rfl (lv_room (Nat.le_of_ble_eq_true rfl)) dX9_place_4 ⟨(Nat.le_of_ble_eq_true rfl), (Nat.le_of_ble_eq_true rfl)⟩) hP hD hS hA [1, 2] [0, 3] rfl rfl (by decide) (by decide) (fun u1 H locs hP hD hS => ?_)
  have hP : va_P g.1 vwCl [(q21, .inr (8, [w22, .ref q29, w24, w25, w26, w27, w28])), (q1, .inr (11, [.ref q14, w4, w5, w6, w7, w8, w9, w10, w11, w12, w13])), (q18, .inl (g.2 3, 10, .inr (.inr (.inr (.inr f19))))), (q14, .inr (10, [.ref q18, .int 0, w17]))] H := hP
  have hD : va_D A [(q21, .inr (8, [w22, .ref q29, w24, w25, w26, w27, w28])), (q1, .inr (11, [.ref q14, w4, w5, w6, w7, w8, w9, w10, w11, w12, w13])), (q18, .inl (g.2 3, 10, .inr (.inr (.inr (.inr f19))))), (q14, .inr (10, [.ref q18, .int 0, w17]))] := hD
  refine gf_RX9_193 hx hb hown hE hP 0 rfl rfl dX9_place_7 ?_
  refine lv_astore_n (lv' := [(2, .ref q29), (0, .ref q1), (1, .int x2)]) hx hb dX9_place_10 rfl hl (by decide) rfl (fun ls hl => ?_)
  refine lv_iload_n hx hb dX9_place_11 rfl (lv_at hl 2 rfl) ?_
  refine lv_if_lt (tgt := 23) hx hb dX9_place_12 (by decide) (fun _ => ?_) (fun h => absurd h30 h)
  exact x_throwN (text := "no such place") hx hb hlx hown hE (e783 hE) (e23 hE) (by decide +kernel) hz (by rw [hml]; exact hl.1) dX9_place_23 dX9_place_26 dX9_place_27 dX9_place_29 dX9_place_32 hex (Nat.le_of_ble_eq_true rfl) (Nat.le_of_ble_eq_true rfl) (Nat.le_of_ble_eq_true rfl) (Nat.le_of_ble_eq_true rfl) hlocks hP hD hS hAe hsz (Nat.le_of_ble_eq_true rfl) (Nat.le_of_ble_eq_true rfl) [0, 1, 2, 3] (by decide) rfl

set_option maxHeartbeats 4000000 in
set_option maxRecDepth 100000 in
theorem c1752_L_place (l : Launch) (g : gG) (hlx : l.stackTraces = false) (q1 q3 q15 q19 q22 q30 : Nat) (x2 : Int32) (w5 w6 w7 w8 w9 w10 w11 w12 w13 w14 w18 w23 w25 w26 w27 w28 w29 : Value) (f20 : Nat → Option Nat) (hf21 : f20 0 = some q22) (h31 : x2 < 0) (sz : Nat) : Met l yL_place [Cond.codeWith yL_place cL_place 4 (some .int) [(0, 9, 12, 39)]] ({ frames := 7, cells := 1, slots := 6, locals := 122 } : Room) (va_Pc [.ref q1, .int x2, .ref q3] (PZ g sz [(q22, .inr (8, [w23, .ref q30, w25, w26, w27, w28, w29])), (q19, .inl (g.2 3, 10, .inr (.inr (.inr (.inr f20))))), (q15, .inr (10, [.ref q19, .int 0, w18])), (q1, .inr (11, [.ref q15, w5, w6, w7, w8, w9, w10, w11, w12, w13, w14]))])) (QI g [(q22, .inr (8, [w23, .ref q30, w25, w26, w27, w28, w29])), (q19, .inl (g.2 3, 10, .inr (.inr (.inr (.inr f20))))), (q15, .inr (10, [.ref q19, .int 0, w18])), (q1, .inr (11, [.ref q15, w5, w6, w7, w8, w9, w10, w11, w12, w13, w14]))] sz 1 (fun _ => [])) 1 6 (va_A [(q22, .inr (8, [w23, .ref q30, w25, w26, w27, w28, w29])), (q19, .inl (g.2 3, 10, .inr (.inr (.inr (.inr f20))))), (q15, .inr (10, [.ref q19, .int 0, w18])), (q1, .inr (11, [.ref q15, w5, w6, w7, w8, w9, w10, w11, w12, w13, w14]))] sz) := by
  refine ofH (by decide) (Nat.le_of_ble_eq_true rfl) rfl ?_
  intro p e s m args below meth c A ls hAe hsz hx hb hml hr hlocks hin hown hE hP hD hA hS hl htb hz
  have hown : s.vm.findClass RL = some m.cls := hown
  refine lv_aload_n hx hb dL_place_0 rfl (lv_at hl 2 rfl) ?_
  refine lv_iconst (v := 0) hx hb dL_place_1 (by decide) ?_
  refine lv_aload_n hx hb dL_place_2 rfl (lv_at hl 0 rfl) ?_
  refine lv_iload_n hx hb dL_place_3 rfl (lv_at hl 1 rfl) ?_
  refine gx_i (wr := []) (rVx (rest := [.int 0, .ref q3]) hx hb hml hown hE hP hD hS hA hz 3 rfl rfl (c1751_X9_place l g hlx q1 q15 q19 q22 q30 x2 w5 w6 w7 w8 w9 w10 w11 w12 w13 w14 w18 w23 w25 w26 w27 w28 w29 f20 (hf21) h31 s.heap.size) (kV_X9_place hE (e946 hE) rfl rfl ⟨(Nat.le_of_ble_eq_true rfl), (Nat.le_of_ble_eq_true rfl)⟩) [0, 1, 2, 3] rfl (by decide) rfl hl.1 rfl (lv_room (Nat.le_of_ble_eq_true rfl)) dL_place_4 ⟨(Nat.le_of_ble_eq_true rfl), (Nat.le_of_ble_eq_true rfl)⟩) hP hD hS hA [0, 1, 2, 3] [] rfl rfl (by decide) (by decide) (fun ce9 q9 H locs hP hD hS hq1 hq2 hq3 => ?_)
  have hP : va_P g.1 vwCl [(q22, .inr (8, [w23, .ref q30, w25, w26, w27, w28, w29])), (q1, .inr (11, [.ref q15, w5, w6, w7, w8, w9, w10, w11, w12, w13, w14])), (q19, .inl (g.2 3, 10, .inr (.inr (.inr (.inr f20))))), (q15, .inr (10, [.ref q19, .int 0, w18]))] H := hP
  have hD : va_D A [(q22, .inr (8, [w23, .ref q30, w25, w26, w27, w28, w29])), (q1, .inr (11, [.ref q15, w5, w6, w7, w8, w9, w10, w11, w12, w13, w14])), (q19, .inl (g.2 3, 10, .inr (.inr (.inr (.inr f20))))), (q15, .inr (10, [.ref q19, .int 0, w18]))] := hD
  refine x_catch (name := "java/util/NoSuchElementException") (hh := [(0, 9, 12, 39)]) (tgt := 12) hown htb [] ⟨0, 9, 12, 39⟩ [] rfl (fun _ h => nomatch h) rfl (by decide) (e777 hE) (e785 hE) hq1 hq2 hq3 rfl ?_
  refine lv_astore_n (lv' := [(3, .ref q9), (0, .ref q1), (1, .int x2), (2, .ref q3)]) hx hb dL_place_12 rfl hl (by decide) rfl (fun ls hl => ?_)
  refine lv_iconst (v := 1) hx hb dL_place_13 (by decide) ?_
  exact x_zret hx hb hr rfl rfl hlocks hP hD hS hAe hsz (Nat.le_of_ble_eq_true rfl) (Nat.le_of_ble_eq_true rfl) (fun _ => 0) [] (by decide) rfl dL_place_14

set_option maxHeartbeats 4000000 in
set_option maxRecDepth 100000 in
theorem c1753_X10_place (l : Launch) (g : gG) (q1 q40 : Nat) (x2 : Int32) (w4 w5 w6 w7 w8 w9 w10 w11 w12 w13 w14 w15 w16 w17 w18 w19 w20 w21 w22 w23 w24 w25 w26 w27 w28 w29 w30 w31 w32 w33 w34 w35 w36 w37 w38 w39 : Value) (f41 : Nat → Int32) (hf42 : f41 453 = 1) (h43 : x2 < 0) (sz : Nat) : Met l yX10_place [Cond.code yX10_place cX10_place 2 (some .int)] ({ frames := 1, cells := 0, slots := 0, locals := 22 } : Room) (va_Pc [.ref q1, .int x2] (PX g sz [(q40, .inl (g.2 0, 497, .inl f41)), (q1, .inr (12, [.ref q40, w4, w5, w6, w7, w8, w9, w10, w11, w12, w13, w14, w15, w16, w17, w18, w19, w20, w21, w22, w23, w24, w25, w26, w27, w28, w29, w30, w31, w32, w33, w34, w35, w36, w37, w38, w39]))])) (QI g [(q40, .inl (g.2 0, 497, .inl f41)), (q1, .inr (12, [.ref q40, w4, w5, w6, w7, w8, w9, w10, w11, w12, w13, w14, w15, w16, w17, w18, w19, w20, w21, w22, w23, w24, w25, w26, w27, w28, w29, w30, w31, w32, w33, w34, w35, w36, w37, w38, w39]))] sz 0 (fun _ => [(q1, .inr (12, [.ref q40, w4, w5, w6, w7, w8, .int 1, w10, w11, w12, w13, w14, w15, w16, w17, w18, w19, w20, w21, w22, w23, w24, w25, w26, w27, w28, w29, w30, w31, w32, w33, w34, w35, w36, w37, w38, w39]))])) 0 0 (va_A [(q40, .inl (g.2 0, 497, .inl f41)), (q1, .inr (12, [.ref q40, w4, w5, w6, w7, w8, w9, w10, w11, w12, w13, w14, w15, w16, w17, w18, w19, w20, w21, w22, w23, w24, w25, w26, w27, w28, w29, w30, w31, w32, w33, w34, w35, w36, w37, w38, w39]))] sz) := by
  refine ofN (by decide) (Nat.le_of_ble_eq_true rfl) rfl ?_
  intro p e s m args below meth c A ls hAe hsz hx hb hml hr hlocks hin hown hE hP hD hA hS hl
  have hown : s.vm.findClass RX10 = some m.cls := hown
  refine lv_aload_n hx hb dX10_place_0 rfl (lv_at hl 0 rfl) ?_
  refine lv_iload_n hx hb dX10_place_1 rfl (lv_at hl 1 rfl) ?_
  refine lv_iconst (v := 0) hx hb dX10_place_2 (by decide) ?_
  refine lv_aload_n hx hb dX10_place_3 rfl (lv_at hl 0 rfl) ?_
  refine gf_RX10_9 hx hb hown hE hP 1 rfl rfl dX10_place_4 ?_
  refine lv_sipush (v := 453) hx hb dX10_place_7 (by decide) ?_
  refine x_iald (v := 1) hx hb hE hP 0 rfl 453 (x_in (by decide)) (by decide) hf42 dX10_place_10 ?_
  refine lv_iconst (v := 1) hx hb dX10_place_11 (by decide) ?_
  refine x_isub (v := 0) hx hb dX10_place_12 (by decide) ?_
  refine g0_i (rS (rest := [.ref q1]) hx hb hml hown hE hP hD (c642_X10_in l g x2 0 h43 s.heap.size) (kS_X10_in hE (e1431 hE) rfl rfl ⟨(Nat.le_of_ble_eq_true rfl), (Nat.le_of_ble_eq_true rfl)⟩) [] rfl (by decide) rfl hl.1 rfl (lv_room (Nat.le_of_ble_eq_true rfl)) dX10_place_13 ⟨(Nat.le_of_ble_eq_true rfl), (Nat.le_of_ble_eq_true rfl)⟩) hP hD hS hA (fun u9 H locs hP hS => ?_)
  refine lv_if_eq (tgt := 23) hx hb dX10_place_16 (by decide) (fun _ => ?_) (fun h => absurd (by decide) h)
  refine lv_iconst (v := 1) hx hb dX10_place_23 (by decide) ?_
  refine pf_RX10_86 (ws' := [(q40, .inl (g.2 0, 497, .inl f41)), (q1, .inr (12, [.ref q40, w4, w5, w6, w7, w8, .int 1, w10, w11, w12, w13, w14, w15, w16, w17, w18, w19, w20, w21, w22, w23, w24, w25, w26, w27, w28, w29, w30, w31, w32, w33, w34, w35, w36, w37, w38, w39]))]) hx hb hown hE hP hD hS 1 rfl rfl rfl (Nat.le_of_ble_eq_true rfl) dX10_place_24 rfl (fun H locs hP hD hS => ?_)
  refine lv_aload_n hx hb dX10_place_27 rfl (lv_at hl 0 rfl) ?_
  refine gf_RX10_86 hx hb hown hE hP 1 rfl rfl dX10_place_28 ?_
  refine lv_if_le (tgt := 38) hx hb dX10_place_31 (by decide) (fun h => absurd h (by decide)) (fun _ => ?_)
  refine lv_iconst (v := 0) hx hb dX10_place_34 (by decide) ?_
  refine lv_goto (tgt := 50) hx hb dX10_place_35 (by decide) ?_
  exact x_zret hx hb hr rfl rfl hlocks hP hD hS hAe hsz (Nat.le_of_ble_eq_true rfl) (Nat.le_of_ble_eq_true rfl) (fun _ => 0) [1] (by decide) rfl dX10_place_50

set_option maxHeartbeats 4000000 in
set_option maxRecDepth 100000 in
theorem c1754_X7_placeTick (l : Launch) (g : gG) (q1 q8 : Nat) (x2 : Int32) (w5 w6 w7 : Value) (h3 : (0 : Int32) ≤ x2) (h10 : x2 < 10) (sz : Nat) : Met l yX7_placeTick [Cond.code yX7_placeTick cX7_placeTick 2 (some .int)] ({ frames := 0, cells := 0, slots := 0, locals := 0 } : Room) (va_Pc [.ref q1, .int x2] (PX g sz [(q8, .inl (g.2 0, 10, .inl (fun _ => 0))), (q1, .inr (9, [.ref q8, w5, w6, w7]))])) (QI g [(q8, .inl (g.2 0, 10, .inl (fun _ => 0))), (q1, .inr (9, [.ref q8, w5, w6, w7]))] sz 0 (fun _ => [(q8, .inl (g.2 0, 10, .inl (fun _ => 0))), (q1, .inr (9, [.ref q8, w5, w6, w7]))])) 0 0 (va_A [(q8, .inl (g.2 0, 10, .inl (fun _ => 0))), (q1, .inr (9, [.ref q8, w5, w6, w7]))] sz) := by
  refine ofN (by decide) (Nat.le_of_ble_eq_true rfl) rfl ?_
  intro p e s m args below meth c A ls hAe hsz hx hb hml hr hlocks hin hown hE hP hD hA hS hl
  have hown : s.vm.findClass RX7 = some m.cls := hown
  refine lv_iload_n hx hb dX7_placeTick_0 rfl (lv_at hl 1 rfl) ?_
  refine lv_if_lt (tgt := 22) hx hb dX7_placeTick_1 (by decide) (fun h => absurd h (i_nlt h3)) (fun _ => ?_)
  refine lv_iload_n hx hb dX7_placeTick_4 rfl (lv_at hl 1 rfl) ?_
  refine lv_aload_n hx hb dX7_placeTick_5 rfl (lv_at hl 0 rfl) ?_
  refine gf_RX7_9 hx hb hown hE hP 1 rfl rfl dX7_placeTick_6 ?_
  refine x_aleni (v := 10) hx hb hE hP 0 rfl rfl dX7_placeTick_9 ?_
  refine lv_icmp_ge (tgt := 22) hx hb dX7_placeTick_10 (by decide) (fun h => absurd h (i_nle h10)) (fun _ => ?_)
  refine lv_aload_n hx hb dX7_placeTick_13 rfl (lv_at hl 0 rfl) ?_
  refine gf_RX7_9 hx hb hown hE hP 1 rfl rfl dX7_placeTick_14 ?_
  refine lv_iload_n hx hb dX7_placeTick_17 rfl (lv_at hl 1 rfl) ?_
  refine x_iald (v := 0) hx hb hE hP 0 rfl _ (x_in2 h3 (show _ < (10 : Int32) from h10) (by decide)) rfl rfl dX7_placeTick_18 ?_
  refine lv_goto (tgt := 23) hx hb dX7_placeTick_19 (by decide) ?_
  exact x_zret hx hb hr rfl rfl hlocks hP hD hS hAe hsz (Nat.le_of_ble_eq_true rfl) (Nat.le_of_ble_eq_true rfl) (fun _ => 0) [0, 1] (by decide) rfl dX7_placeTick_23

set_option maxHeartbeats 4000000 in
set_option maxRecDepth 100000 in
theorem c1755_X9_place (l : Launch) (g : gG) (q1 q14 q18 q21 q29 q36 : Nat) (x2 : Int32) (w4 w5 w6 w7 w8 w9 w10 w11 w12 w13 w17 w22 w24 w25 w26 w27 w28 w32 w34 : Value) (f19 : Nat → Option Nat) (hf20 : f19 0 = some q21) (h30 : (0 : Int32) ≤ x2) (h35 : x2 < 1) (sz : Nat) : Met l yX9_place [Cond.code yX9_place cX9_place 3 (some .int)] ({ frames := 2, cells := 0, slots := 0, locals := 42 } : Room) (va_Pc [.ref q1, .int x2] (PX g sz [(q36, .inl (g.2 0, 10, .inl (fun _ => 0))), (q29, .inr (9, [.ref q36, w32, .int 1, w34])), (q21, .inr (8, [w22, .ref q29, w24, w25, w26, w27, w28])), (q18, .inl (g.2 3, 10, .inr (.inr (.inr (.inr f19))))), (q14, .inr (10, [.ref q18, .int 0, w17])), (q1, .inr (11, [.ref q14, w4, w5, w6, w7, w8, w9, w10, w11, w12, w13]))])) (QI g [(q36, .inl (g.2 0, 10, .inl (fun _ => 0))), (q29, .inr (9, [.ref q36, w32, .int 1, w34])), (q21, .inr (8, [w22, .ref q29, w24, w25, w26, w27, w28])), (q18, .inl (g.2 3, 10, .inr (.inr (.inr (.inr f19))))), (q14, .inr (10, [.ref q18, .int 0, w17])), (q1, .inr (11, [.ref q14, w4, w5, w6, w7, w8, w9, w10, w11, w12, w13]))] sz 0 (fun _ => [(q21, .inr (8, [w22, .ref q29, w24, w25, w26, w27, w28])), (q1, .inr (11, [.ref q14, w4, w5, w6, w7, w8, w9, w10, w11, w12, w13])), (q18, .inl (g.2 3, 10, .inr (.inr (.inr (.inr f19))))), (q14, .inr (10, [.ref q18, .int 0, w17])), (q36, .inl (g.2 0, 10, .inl (fun _ => 0))), (q29, .inr (9, [.ref q36, w32, .int 1, w34]))])) 0 0 (va_A [(q36, .inl (g.2 0, 10, .inl (fun _ => 0))), (q29, .inr (9, [.ref q36, w32, .int 1, w34])), (q21, .inr (8, [w22, .ref q29, w24, w25, w26, w27, w28])), (q18, .inl (g.2 3, 10, .inr (.inr (.inr (.inr f19))))), (q14, .inr (10, [.ref q18, .int 0, w17])), (q1, .inr (11, [.ref q14, w4, w5, w6, w7, w8, w9, w10, w11, w12, w13]))] sz) := by
  refine ofN (by decide) (Nat.le_of_ble_eq_true rfl) rfl ?_
  intro p e s m args below meth c A ls hAe hsz hx hb hml hr hlocks hin hown hE hP hD hA hS hl
  have hown : s.vm.findClass RX9 = some m.cls := hown
  refine lv_aload_n hx hb dX9_place_0 rfl (lv_at hl 0 rfl) ?_
  refine gf_RX9_12 hx hb hown hE hP 5 rfl rfl dX9_place_1 ?_
  refine g_r (wr := [(q36, .inl (g.2 0, 10, .inl (fun _ => 0))), (q29, .inr (9, [.ref q36, w32, .int 1, w34])), (q21, .inr (8, [w22, .ref q29, w24, w25, w26, w27, w28])), (q1, .inr (11, [.ref q14, w4, w5, w6, w7, w8, w9, w10, w11, w12, w13]))]) (rV (rest := []) hx hb hml hown hE hP hD 4 rfl rfl (c71_X8_current l g q14 q18 q21 w17 f19 (hf20) s.heap.size) (kV_X8_current hE (e290 hE) rfl rfl ⟨(Nat.le_of_ble_eq_true rfl), (Nat.le_of_ble_eq_true rfl)⟩) [3, 4] rfl (by decide) rfl hl.1 rfl (lv_room (Nat.le_of_ble_eq_true rfl)) dX9_place_4 ⟨(Nat.le_of_ble_eq_true rfl), (Nat.le_of_ble_eq_true rfl)⟩) hP hD hS hA [3, 4] [0, 1, 2, 5] rfl rfl (by decide) (by decide) (fun u1 H locs hP hD hS => ?_)
  have hP : va_P g.1 vwCl [(q36, .inl (g.2 0, 10, .inl (fun _ => 0))), (q29, .inr (9, [.ref q36, w32, .int 1, w34])), (q21, .inr (8, [w22, .ref q29, w24, w25, w26, w27, w28])), (q1, .inr (11, [.ref q14, w4, w5, w6, w7, w8, w9, w10, w11, w12, w13])), (q18, .inl (g.2 3, 10, .inr (.inr (.inr (.inr f19))))), (q14, .inr (10, [.ref q18, .int 0, w17]))] H := hP
  have hD : va_D A [(q36, .inl (g.2 0, 10, .inl (fun _ => 0))), (q29, .inr (9, [.ref q36, w32, .int 1, w34])), (q21, .inr (8, [w22, .ref q29, w24, w25, w26, w27, w28])), (q1, .inr (11, [.ref q14, w4, w5, w6, w7, w8, w9, w10, w11, w12, w13])), (q18, .inl (g.2 3, 10, .inr (.inr (.inr (.inr f19))))), (q14, .inr (10, [.ref q18, .int 0, w17]))] := hD
  refine gf_RX9_193 hx hb hown hE hP 2 rfl rfl dX9_place_7 ?_
  refine lv_astore_n (lv' := [(2, .ref q29), (0, .ref q1), (1, .int x2)]) hx hb dX9_place_10 rfl hl (by decide) rfl (fun ls hl => ?_)
  refine lv_iload_n hx hb dX9_place_11 rfl (lv_at hl 2 rfl) ?_
  refine lv_if_lt (tgt := 23) hx hb dX9_place_12 (by decide) (fun h => absurd h (i_nlt h30)) (fun _ => ?_)
  refine lv_iload_n hx hb dX9_place_15 rfl (lv_at hl 2 rfl) ?_
  refine lv_aload_n hx hb dX9_place_16 rfl (lv_at hl 0 rfl) ?_
  refine g_i (wr := [(q36, .inl (g.2 0, 10, .inl (fun _ => 0))), (q21, .inr (8, [w22, .ref q29, w24, w25, w26, w27, w28])), (q1, .inr (11, [.ref q14, w4, w5, w6, w7, w8, w9, w10, w11, w12, w13])), (q18, .inl (g.2 3, 10, .inr (.inr (.inr (.inr f19))))), (q14, .inr (10, [.ref q18, .int 0, w17]))]) (rV (rest := [.int x2]) hx hb hml hown hE hP hD 1 rfl rfl (c1658_X7_placeCount l g q29 (.ref q36) w32 w34 H.size) (kV_X7_placeCount hE (e865 hE) rfl rfl ⟨(Nat.le_of_ble_eq_true rfl), (Nat.le_of_ble_eq_true rfl)⟩) [1] rfl (by decide) rfl hl.1 rfl (lv_room (Nat.le_of_ble_eq_true rfl)) dX9_place_17 ⟨(Nat.le_of_ble_eq_true rfl), (Nat.le_of_ble_eq_true rfl)⟩) hP hD hS hA [1] [0, 2, 3, 4, 5] rfl rfl (by decide) (by decide) (fun u2 H locs hP hD hS => ?_)
  have hP : va_P g.1 vwCl [(q36, .inl (g.2 0, 10, .inl (fun _ => 0))), (q21, .inr (8, [w22, .ref q29, w24, w25, w26, w27, w28])), (q1, .inr (11, [.ref q14, w4, w5, w6, w7, w8, w9, w10, w11, w12, w13])), (q18, .inl (g.2 3, 10, .inr (.inr (.inr (.inr f19))))), (q14, .inr (10, [.ref q18, .int 0, w17])), (q29, .inr (9, [.ref q36, w32, .int 1, w34]))] H := hP
  have hD : va_D A [(q36, .inl (g.2 0, 10, .inl (fun _ => 0))), (q21, .inr (8, [w22, .ref q29, w24, w25, w26, w27, w28])), (q1, .inr (11, [.ref q14, w4, w5, w6, w7, w8, w9, w10, w11, w12, w13])), (q18, .inl (g.2 3, 10, .inr (.inr (.inr (.inr f19))))), (q14, .inr (10, [.ref q18, .int 0, w17])), (q29, .inr (9, [.ref q36, w32, .int 1, w34]))] := hD
  refine lv_icmp_lt (tgt := 33) hx hb dX9_place_20 (by decide) (fun _ => ?_) (fun h => absurd h35 h)
  refine lv_aload_n hx hb dX9_place_33 rfl (lv_at hl 0 rfl) ?_
  refine lv_iload_n hx hb dX9_place_34 rfl (lv_at hl 2 rfl) ?_
  refine g_i (wr := [(q21, .inr (8, [w22, .ref q29, w24, w25, w26, w27, w28])), (q1, .inr (11, [.ref q14, w4, w5, w6, w7, w8, w9, w10, w11, w12, w13])), (q18, .inl (g.2 3, 10, .inr (.inr (.inr (.inr f19))))), (q14, .inr (10, [.ref q18, .int 0, w17]))]) (rV (rest := []) hx hb hml hown hE hP hD 5 rfl rfl (c1754_X7_placeTick l g q29 q36 x2 w32 (.int 1) w34 h30 (i_ltlt h35 (by decide)) H.size) (kV_X7_placeTick hE (e951 hE) rfl rfl ⟨(Nat.le_of_ble_eq_true rfl), (Nat.le_of_ble_eq_true rfl)⟩) [0, 5] rfl (by decide) rfl hl.1 rfl (lv_room (Nat.le_of_ble_eq_true rfl)) dX9_place_35 ⟨(Nat.le_of_ble_eq_true rfl), (Nat.le_of_ble_eq_true rfl)⟩) hP hD hS hA [0, 5] [1, 2, 3, 4] rfl rfl (by decide) (by decide) (fun u3 H locs hP hD hS => ?_)
  have hP : va_P g.1 vwCl [(q21, .inr (8, [w22, .ref q29, w24, w25, w26, w27, w28])), (q1, .inr (11, [.ref q14, w4, w5, w6, w7, w8, w9, w10, w11, w12, w13])), (q18, .inl (g.2 3, 10, .inr (.inr (.inr (.inr f19))))), (q14, .inr (10, [.ref q18, .int 0, w17])), (q36, .inl (g.2 0, 10, .inl (fun _ => 0))), (q29, .inr (9, [.ref q36, w32, .int 1, w34]))] H := hP
  have hD : va_D A [(q21, .inr (8, [w22, .ref q29, w24, w25, w26, w27, w28])), (q1, .inr (11, [.ref q14, w4, w5, w6, w7, w8, w9, w10, w11, w12, w13])), (q18, .inl (g.2 3, 10, .inr (.inr (.inr (.inr f19))))), (q14, .inr (10, [.ref q18, .int 0, w17])), (q36, .inl (g.2 0, 10, .inl (fun _ => 0))), (q29, .inr (9, [.ref q36, w32, .int 1, w34]))] := hD
  exact x_zret hx hb hr rfl rfl hlocks hP hD hS hAe hsz (Nat.le_of_ble_eq_true rfl) (Nat.le_of_ble_eq_true rfl) (fun _ => 0) [0, 1, 2, 3, 4, 5] (by decide) rfl dX9_place_38

set_option maxHeartbeats 4000000 in
set_option maxRecDepth 100000 in
theorem c1756_L_place (l : Launch) (g : gG) (hlx : l.stackTraces = false) (q1 q3 q15 q19 q22 q30 q37 : Nat) (x2 : Int32) (w5 w6 w7 w8 w9 w10 w11 w12 w13 w14 w18 w23 w25 w26 w27 w28 w29 w33 w35 : Value) (f20 : Nat → Option Nat) (f39 : Nat → Int64) (hf21 : f20 0 = some q22) (h31 : (0 : Int32) ≤ x2) (h36 : x2 < 1) (sz : Nat) : Met l yL_place [Cond.codeWith yL_place cL_place 4 (some .int) [(0, 9, 12, 39)]] ({ frames := 3, cells := 0, slots := 0, locals := 64 } : Room) (va_Pc [.ref q1, .int x2, .ref q3] (PZ g sz [(q3, .inl (g.2 1, 1, .inr (.inl f39))), (q37, .inl (g.2 0, 10, .inl (fun _ => 0))), (q30, .inr (9, [.ref q37, w33, .int 1, w35])), (q22, .inr (8, [w23, .ref q30, w25, w26, w27, w28, w29])), (q19, .inl (g.2 3, 10, .inr (.inr (.inr (.inr f20))))), (q15, .inr (10, [.ref q19, .int 0, w18])), (q1, .inr (11, [.ref q15, w5, w6, w7, w8, w9, w10, w11, w12, w13, w14]))])) (QI g [(q3, .inl (g.2 1, 1, .inr (.inl f39))), (q37, .inl (g.2 0, 10, .inl (fun _ => 0))), (q30, .inr (9, [.ref q37, w33, .int 1, w35])), (q22, .inr (8, [w23, .ref q30, w25, w26, w27, w28, w29])), (q19, .inl (g.2 3, 10, .inr (.inr (.inr (.inr f20))))), (q15, .inr (10, [.ref q19, .int 0, w18])), (q1, .inr (11, [.ref q15, w5, w6, w7, w8, w9, w10, w11, w12, w13, w14]))] sz 0 (fun _ => [(q3, .inl (g.2 1, 1, .inr (.inl (vp_updL f39 0 0))))])) 0 0 (va_A [(q3, .inl (g.2 1, 1, .inr (.inl f39))), (q37, .inl (g.2 0, 10, .inl (fun _ => 0))), (q30, .inr (9, [.ref q37, w33, .int 1, w35])), (q22, .inr (8, [w23, .ref q30, w25, w26, w27, w28, w29])), (q19, .inl (g.2 3, 10, .inr (.inr (.inr (.inr f20))))), (q15, .inr (10, [.ref q19, .int 0, w18])), (q1, .inr (11, [.ref q15, w5, w6, w7, w8, w9, w10, w11, w12, w13, w14]))] sz) := by
  refine ofH (by decide) (Nat.le_of_ble_eq_true rfl) rfl ?_
  intro p e s m args below meth c A ls hAe hsz hx hb hml hr hlocks hin hown hE hP hD hA hS hl htb hz
  have hown : s.vm.findClass RL = some m.cls := hown
  refine lv_aload_n hx hb dL_place_0 rfl (lv_at hl 2 rfl) ?_
  refine lv_iconst (v := 0) hx hb dL_place_1 (by decide) ?_
  refine lv_aload_n hx hb dL_place_2 rfl (lv_at hl 0 rfl) ?_
  refine lv_iload_n hx hb dL_place_3 rfl (lv_at hl 1 rfl) ?_
  refine g_i (wr := [(q3, .inl (g.2 1, 1, .inr (.inl f39)))]) (rV (rest := [.int 0, .ref q3]) hx hb hml hown hE hP hD 6 rfl rfl (c1755_X9_place l g q1 q15 q19 q22 q30 q37 x2 w5 w6 w7 w8 w9 w10 w11 w12 w13 w14 w18 w23 w25 w26 w27 w28 w29 w33 w35 f20 (hf21) h31 h36 s.heap.size) (kV_X9_place hE (e946 hE) rfl rfl ⟨(Nat.le_of_ble_eq_true rfl), (Nat.le_of_ble_eq_true rfl)⟩) [1, 2, 3, 4, 5, 6] rfl (by decide) rfl hl.1 rfl (lv_room (Nat.le_of_ble_eq_true rfl)) dL_place_4 ⟨(Nat.le_of_ble_eq_true rfl), (Nat.le_of_ble_eq_true rfl)⟩) hP hD hS hA [1, 2, 3, 4, 5, 6] [0] rfl rfl (by decide) (by decide) (fun u1 H locs hP hD hS => ?_)
  have hP : va_P g.1 vwCl [(q3, .inl (g.2 1, 1, .inr (.inl f39))), (q22, .inr (8, [w23, .ref q30, w25, w26, w27, w28, w29])), (q1, .inr (11, [.ref q15, w5, w6, w7, w8, w9, w10, w11, w12, w13, w14])), (q19, .inl (g.2 3, 10, .inr (.inr (.inr (.inr f20))))), (q15, .inr (10, [.ref q19, .int 0, w18])), (q37, .inl (g.2 0, 10, .inl (fun _ => 0))), (q30, .inr (9, [.ref q37, w33, .int 1, w35]))] H := hP
  have hD : va_D A [(q3, .inl (g.2 1, 1, .inr (.inl f39))), (q22, .inr (8, [w23, .ref q30, w25, w26, w27, w28, w29])), (q1, .inr (11, [.ref q15, w5, w6, w7, w8, w9, w10, w11, w12, w13, w14])), (q19, .inl (g.2 3, 10, .inr (.inr (.inr (.inr f20))))), (q15, .inr (10, [.ref q19, .int 0, w18])), (q37, .inl (g.2 0, 10, .inl (fun _ => 0))), (q30, .inr (9, [.ref q37, w33, .int 1, w35]))] := hD
  refine lv_i2l (v := 0) hx hb dL_place_7 (by decide) ?_
  refine x_last (ws' := [(q3, .inl (g.2 1, 1, .inr (.inl (vp_updL f39 0 0)))), (q22, .inr (8, [w23, .ref q30, w25, w26, w27, w28, w29])), (q1, .inr (11, [.ref q15, w5, w6, w7, w8, w9, w10, w11, w12, w13, w14])), (q19, .inl (g.2 3, 10, .inr (.inr (.inr (.inr f20))))), (q15, .inr (10, [.ref q19, .int 0, w18])), (q37, .inl (g.2 0, 10, .inl (fun _ => 0))), (q30, .inr (9, [.ref q37, w33, .int 1, w35]))]) hx hb hE hP hD hS 0 rfl 0 (x_in (by decide)) (by decide) dL_place_8 rfl (fun H locs hP hD hS => ?_)
  refine lv_goto (tgt := 15) hx hb dL_place_9 (by decide) ?_
  refine lv_iconst (v := 0) hx hb dL_place_15 (by decide) ?_
  exact x_zret hx hb hr rfl rfl hlocks hP hD hS hAe hsz (Nat.le_of_ble_eq_true rfl) (Nat.le_of_ble_eq_true rfl) (fun _ => 0) [0] (by decide) rfl dL_place_16

set_option maxHeartbeats 4000000 in
set_option maxRecDepth 100000 in
theorem c1757_X10_place (l : Launch) (g : gG) (q1 q39 : Nat) (w3 w4 w5 w6 w7 w8 w9 w10 w11 w12 w13 w14 w15 w16 w17 w18 w19 w20 w21 w22 w23 w24 w25 w26 w27 w28 w29 w30 w31 w32 w33 w34 w35 w36 w37 w38 : Value) (f40 : Nat → Int32) (hf41 : f40 453 = 1) (hf42 : f40 454 = 0) (sz : Nat) : Met l yX10_place [Cond.code yX10_place cX10_place 2 (some .int)] ({ frames := 1, cells := 0, slots := 0, locals := 22 } : Room) (va_Pc [.ref q1, .int 0] (PX g sz [(q39, .inl (g.2 0, 497, .inl f40)), (q1, .inr (12, [.ref q39, w3, w4, w5, w6, w7, w8, w9, w10, w11, w12, w13, w14, w15, w16, w17, w18, w19, w20, w21, w22, w23, w24, w25, w26, w27, w28, w29, w30, w31, w32, w33, w34, w35, w36, w37, w38]))])) (QI g [(q39, .inl (g.2 0, 497, .inl f40)), (q1, .inr (12, [.ref q39, w3, w4, w5, w6, w7, w8, w9, w10, w11, w12, w13, w14, w15, w16, w17, w18, w19, w20, w21, w22, w23, w24, w25, w26, w27, w28, w29, w30, w31, w32, w33, w34, w35, w36, w37, w38]))] sz 0 (fun _ => [(q1, .inr (12, [.ref q39, w3, w4, w5, w6, w7, .int 0, w9, w10, w11, w12, w13, w14, w15, w16, w17, w18, w19, w20, w21, w22, w23, w24, w25, w26, w27, w28, w29, w30, w31, w32, w33, w34, w35, w36, w37, w38]))])) 0 0 (va_A [(q39, .inl (g.2 0, 497, .inl f40)), (q1, .inr (12, [.ref q39, w3, w4, w5, w6, w7, w8, w9, w10, w11, w12, w13, w14, w15, w16, w17, w18, w19, w20, w21, w22, w23, w24, w25, w26, w27, w28, w29, w30, w31, w32, w33, w34, w35, w36, w37, w38]))] sz) := by
  refine ofN (by decide) (Nat.le_of_ble_eq_true rfl) rfl ?_
  intro p e s m args below meth c A ls hAe hsz hx hb hml hr hlocks hin hown hE hP hD hA hS hl
  have hown : s.vm.findClass RX10 = some m.cls := hown
  refine lv_aload_n hx hb dX10_place_0 rfl (lv_at hl 0 rfl) ?_
  refine lv_iload_n hx hb dX10_place_1 rfl (lv_at hl 1 rfl) ?_
  refine lv_iconst (v := 0) hx hb dX10_place_2 (by decide) ?_
  refine lv_aload_n hx hb dX10_place_3 rfl (lv_at hl 0 rfl) ?_
  refine gf_RX10_9 hx hb hown hE hP 1 rfl rfl dX10_place_4 ?_
  refine lv_sipush (v := 453) hx hb dX10_place_7 (by decide) ?_
  refine x_iald (v := 1) hx hb hE hP 0 rfl 453 (x_in (by decide)) (by decide) hf41 dX10_place_10 ?_
  refine lv_iconst (v := 1) hx hb dX10_place_11 (by decide) ?_
  refine x_isub (v := 0) hx hb dX10_place_12 (by decide) ?_
  refine g0_i (rS (rest := [.ref q1]) hx hb hml hown hE hP hD (c656_X10_in l g 0 (by decide) (by decide) s.heap.size) (kS_X10_in hE (e1431 hE) rfl rfl ⟨(Nat.le_of_ble_eq_true rfl), (Nat.le_of_ble_eq_true rfl)⟩) [] rfl (by decide) rfl hl.1 rfl (lv_room (Nat.le_of_ble_eq_true rfl)) dX10_place_13 ⟨(Nat.le_of_ble_eq_true rfl), (Nat.le_of_ble_eq_true rfl)⟩) hP hD hS hA (fun u9 H locs hP hS => ?_)
  refine lv_if_eq (tgt := 23) hx hb dX10_place_16 (by decide) (fun h => absurd h (by decide)) (fun _ => ?_)
  refine lv_iconst (v := 0) hx hb dX10_place_19 (by decide) ?_
  refine lv_goto (tgt := 24) hx hb dX10_place_20 (by decide) ?_
  refine pf_RX10_86 (ws' := [(q39, .inl (g.2 0, 497, .inl f40)), (q1, .inr (12, [.ref q39, w3, w4, w5, w6, w7, .int 0, w9, w10, w11, w12, w13, w14, w15, w16, w17, w18, w19, w20, w21, w22, w23, w24, w25, w26, w27, w28, w29, w30, w31, w32, w33, w34, w35, w36, w37, w38]))]) hx hb hown hE hP hD hS 1 rfl rfl rfl (Nat.le_of_ble_eq_true rfl) dX10_place_24 rfl (fun H locs hP hD hS => ?_)
  refine lv_aload_n hx hb dX10_place_27 rfl (lv_at hl 0 rfl) ?_
  refine gf_RX10_86 hx hb hown hE hP 1 rfl rfl dX10_place_28 ?_
  refine lv_if_le (tgt := 38) hx hb dX10_place_31 (by decide) (fun _ => ?_) (fun h => absurd (by decide) h)
  refine lv_aload_n hx hb dX10_place_38 rfl (lv_at hl 0 rfl) ?_
  refine gf_RX10_9 hx hb hown hE hP 1 rfl rfl dX10_place_39 ?_
  refine lv_sipush (v := 454) hx hb dX10_place_42 (by decide) ?_
  refine lv_iconst (v := 2) hx hb dX10_place_45 (by decide) ?_
  refine lv_iload_n hx hb dX10_place_46 rfl (lv_at hl 1 rfl) ?_
  refine x_imul (v := 0) hx hb dX10_place_47 (by decide) ?_
  refine x_iadd (v := 454) hx hb dX10_place_48 (by decide) ?_
  refine x_iald (v := 0) hx hb hE hP 0 rfl 454 (x_in (by decide)) (by decide) hf42 dX10_place_49 ?_
  exact x_zret hx hb hr rfl rfl hlocks hP hD hS hAe hsz (Nat.le_of_ble_eq_true rfl) (Nat.le_of_ble_eq_true rfl) (fun _ => 0) [1] (by decide) rfl dX10_place_50

set_option maxHeartbeats 4000000 in
set_option maxRecDepth 100000 in
theorem c1758_X9_place (l : Launch) (g : gG) (hlx : l.stackTraces = false) (q1 q14 q18 q21 q29 : Nat) (x2 : Int32) (w4 w5 w6 w7 w8 w9 w10 w11 w12 w13 w17 w22 w24 w25 w26 w27 w28 w31 w32 w34 : Value) (f19 : Nat → Option Nat) (hf20 : f19 0 = some q21) (h30 : (0 : Int32) ≤ x2) (h35 : (1 : Int32) ≤ x2) (sz : Nat) : vx_Met l yX9_place [Cond.code yX9_place cX9_place 3 (some .int)] ({ frames := 6, cells := 1, slots := 6, locals := 100 } : Room) (va_Pc [.ref q1, .int x2] (PZ g sz [(q29, .inr (9, [w31, w32, .int 1, w34])), (q21, .inr (8, [w22, .ref q29, w24, w25, w26, w27, w28])), (q18, .inl (g.2 3, 10, .inr (.inr (.inr (.inr f19))))), (q14, .inr (10, [.ref q18, .int 0, w17])), (q1, .inr (11, [.ref q14, w4, w5, w6, w7, w8, w9, w10, w11, w12, w13]))])) NI (XW g [(q29, .inr (9, [w31, w32, .int 1, w34])), (q21, .inr (8, [w22, .ref q29, w24, w25, w26, w27, w28])), (q18, .inl (g.2 3, 10, .inr (.inr (.inr (.inr f19))))), (q14, .inr (10, [.ref q18, .int 0, w17])), (q1, .inr (11, [.ref q14, w4, w5, w6, w7, w8, w9, w10, w11, w12, w13]))] sz "java/util/NoSuchElementException" [(q21, .inr (8, [w22, .ref q29, w24, w25, w26, w27, w28])), (q1, .inr (11, [.ref q14, w4, w5, w6, w7, w8, w9, w10, w11, w12, w13])), (q18, .inl (g.2 3, 10, .inr (.inr (.inr (.inr f19))))), (q14, .inr (10, [.ref q18, .int 0, w17])), (q29, .inr (9, [w31, w32, .int 1, w34]))]) 1 6 (va_A [(q29, .inr (9, [w31, w32, .int 1, w34])), (q21, .inr (8, [w22, .ref q29, w24, w25, w26, w27, w28])), (q18, .inl (g.2 3, 10, .inr (.inr (.inr (.inr f19))))), (q14, .inr (10, [.ref q18, .int 0, w17])), (q1, .inr (11, [.ref q14, w4, w5, w6, w7, w8, w9, w10, w11, w12, w13]))] sz) := by
  refine ofX (by decide) (Nat.le_of_ble_eq_true rfl) rfl ?_
  intro p e s m args below meth c A ls hAe hsz hx hb hml hr hlocks hin hown hE hP hD hA hS hl hex hz
  have hown : s.vm.findClass RX9 = some m.cls := hown
  refine lv_aload_n hx hb dX9_place_0 rfl (lv_at hl 0 rfl) ?_
  refine gf_RX9_12 hx hb hown hE hP 4 rfl rfl dX9_place_1 ?_
  refine g_r (wr := [(q29, .inr (9, [w31, w32, .int 1, w34])), (q21, .inr (8, [w22, .ref q29, w24, w25, w26, w27, w28])), (q1, .inr (11, [.ref q14, w4, w5, w6, w7, w8, w9, w10, w11, w12, w13]))]) (rV (rest := []) hx hb hml hown hE hP hD 3 rfl rfl (c71_X8_current l g q14 q18 q21 w17 f19 (hf20) s.heap.size) (kV_X8_current hE (e290 hE) rfl rfl ⟨(Nat.le_of_ble_eq_true rfl), (Nat.le_of_ble_eq_true rfl)⟩) [2, 3] rfl (by decide) rfl hl.1 rfl (lv_room (Nat.le_of_ble_eq_true rfl)) dX9_place_4 ⟨(Nat.le_of_ble_eq_true rfl), (Nat.le_of_ble_eq_true rfl)⟩) hP hD hS hA [2, 3] [0, 1, 4] rfl rfl (by decide) (by decide) (fun u1 H locs hP hD hS => ?_)
  have hP : va_P g.1 vwCl [(q29, .inr (9, [w31, w32, .int 1, w34])), (q21, .inr (8, [w22, .ref q29, w24, w25, w26, w27, w28])), (q1, .inr (11, [.ref q14, w4, w5, w6, w7, w8, w9, w10, w11, w12, w13])), (q18, .inl (g.2 3, 10, .inr (.inr (.inr (.inr f19))))), (q14, .inr (10, [.ref q18, .int 0, w17]))] H := hP
  have hD : va_D A [(q29, .inr (9, [w31, w32, .int 1, w34])), (q21, .inr (8, [w22, .ref q29, w24, w25, w26, w27, w28])), (q1, .inr (11, [.ref q14, w4, w5, w6, w7, w8, w9, w10, w11, w12, w13])), (q18, .inl (g.2 3, 10, .inr (.inr (.inr (.inr f19))))), (q14, .inr (10, [.ref q18, .int 0, w17]))] := hD
  refine gf_RX9_193 hx hb hown hE hP 1 rfl rfl dX9_place_7 ?_
  refine lv_astore_n (lv' := [(2, .ref q29), (0, .ref q1), (1, .int x2)]) hx hb dX9_place_10 rfl hl (by decide) rfl (fun ls hl => ?_)
  refine lv_iload_n hx hb dX9_place_11 rfl (lv_at hl 2 rfl) ?_
  refine lv_if_lt (tgt := 23) hx hb dX9_place_12 (by decide) (fun h => absurd h (i_nlt h30)) (fun _ => ?_)
  refine lv_iload_n hx hb dX9_place_15 rfl (lv_at hl 2 rfl) ?_
  refine lv_aload_n hx hb dX9_place_16 rfl (lv_at hl 0 rfl) ?_
  refine g_i (wr := [(q21, .inr (8, [w22, .ref q29, w24, w25, w26, w27, w28])), (q1, .inr (11, [.ref q14, w4, w5, w6, w7, w8, w9, w10, w11, w12, w13])), (q18, .inl (g.2 3, 10, .inr (.inr (.inr (.inr f19))))), (q14, .inr (10, [.ref q18, .int 0, w17]))]) (rV (rest := [.int x2]) hx hb hml hown hE hP hD 0 rfl rfl (c1658_X7_placeCount l g q29 w31 w32 w34 H.size) (kV_X7_placeCount hE (e865 hE) rfl rfl ⟨(Nat.le_of_ble_eq_true rfl), (Nat.le_of_ble_eq_true rfl)⟩) [0] rfl (by decide) rfl hl.1 rfl (lv_room (Nat.le_of_ble_eq_true rfl)) dX9_place_17 ⟨(Nat.le_of_ble_eq_true rfl), (Nat.le_of_ble_eq_true rfl)⟩) hP hD hS hA [0] [1, 2, 3, 4] rfl rfl (by decide) (by decide) (fun u2 H locs hP hD hS => ?_)
  have hP : va_P g.1 vwCl [(q21, .inr (8, [w22, .ref q29, w24, w25, w26, w27, w28])), (q1, .inr (11, [.ref q14, w4, w5, w6, w7, w8, w9, w10, w11, w12, w13])), (q18, .inl (g.2 3, 10, .inr (.inr (.inr (.inr f19))))), (q14, .inr (10, [.ref q18, .int 0, w17])), (q29, .inr (9, [w31, w32, .int 1, w34]))] H := hP
  have hD : va_D A [(q21, .inr (8, [w22, .ref q29, w24, w25, w26, w27, w28])), (q1, .inr (11, [.ref q14, w4, w5, w6, w7, w8, w9, w10, w11, w12, w13])), (q18, .inl (g.2 3, 10, .inr (.inr (.inr (.inr f19))))), (q14, .inr (10, [.ref q18, .int 0, w17])), (q29, .inr (9, [w31, w32, .int 1, w34]))] := hD
  refine lv_icmp_lt (tgt := 33) hx hb dX9_place_20 (by decide) (fun h => absurd h (i_nlt h35)) (fun _ => ?_)
  exact x_throwN (text := "no such place") hx hb hlx hown hE (e783 hE) (e23 hE) (by decide +kernel) hz (by rw [hml]; exact hl.1) dX9_place_23 dX9_place_26 dX9_place_27 dX9_place_29 dX9_place_32 hex (Nat.le_of_ble_eq_true rfl) (Nat.le_of_ble_eq_true rfl) (Nat.le_of_ble_eq_true rfl) (Nat.le_of_ble_eq_true rfl) hlocks hP hD hS hAe hsz (Nat.le_of_ble_eq_true rfl) (Nat.le_of_ble_eq_true rfl) [0, 1, 2, 3, 4] (by decide) rfl

set_option maxHeartbeats 4000000 in
set_option maxRecDepth 100000 in
theorem c1759_L_place (l : Launch) (g : gG) (hlx : l.stackTraces = false) (q1 q3 q15 q19 q22 q30 q36 : Nat) (x2 : Int32) (w5 w6 w7 w8 w9 w10 w11 w12 w13 w14 w18 w23 w25 w26 w27 w28 w29 w33 w35 : Value) (f20 : Nat → Option Nat) (hf21 : f20 0 = some q22) (h31 : (0 : Int32) ≤ x2) (h38 : (1 : Int32) ≤ x2) (sz : Nat) : Met l yL_place [Cond.codeWith yL_place cL_place 4 (some .int) [(0, 9, 12, 39)]] ({ frames := 7, cells := 1, slots := 6, locals := 122 } : Room) (va_Pc [.ref q1, .int x2, .ref q3] (PZ g sz [(q36, .inl (g.2 0, 10, .inl (fun _ => 0))), (q30, .inr (9, [.ref q36, w33, .int 1, w35])), (q22, .inr (8, [w23, .ref q30, w25, w26, w27, w28, w29])), (q19, .inl (g.2 3, 10, .inr (.inr (.inr (.inr f20))))), (q15, .inr (10, [.ref q19, .int 0, w18])), (q1, .inr (11, [.ref q15, w5, w6, w7, w8, w9, w10, w11, w12, w13, w14]))])) (QI g [(q36, .inl (g.2 0, 10, .inl (fun _ => 0))), (q30, .inr (9, [.ref q36, w33, .int 1, w35])), (q22, .inr (8, [w23, .ref q30, w25, w26, w27, w28, w29])), (q19, .inl (g.2 3, 10, .inr (.inr (.inr (.inr f20))))), (q15, .inr (10, [.ref q19, .int 0, w18])), (q1, .inr (11, [.ref q15, w5, w6, w7, w8, w9, w10, w11, w12, w13, w14]))] sz 1 (fun _ => [])) 1 6 (va_A [(q36, .inl (g.2 0, 10, .inl (fun _ => 0))), (q30, .inr (9, [.ref q36, w33, .int 1, w35])), (q22, .inr (8, [w23, .ref q30, w25, w26, w27, w28, w29])), (q19, .inl (g.2 3, 10, .inr (.inr (.inr (.inr f20))))), (q15, .inr (10, [.ref q19, .int 0, w18])), (q1, .inr (11, [.ref q15, w5, w6, w7, w8, w9, w10, w11, w12, w13, w14]))] sz) := by
  refine ofH (by decide) (Nat.le_of_ble_eq_true rfl) rfl ?_
  intro p e s m args below meth c A ls hAe hsz hx hb hml hr hlocks hin hown hE hP hD hA hS hl htb hz
  have hown : s.vm.findClass RL = some m.cls := hown
  refine lv_aload_n hx hb dL_place_0 rfl (lv_at hl 2 rfl) ?_
  refine lv_iconst (v := 0) hx hb dL_place_1 (by decide) ?_
  refine lv_aload_n hx hb dL_place_2 rfl (lv_at hl 0 rfl) ?_
  refine lv_iload_n hx hb dL_place_3 rfl (lv_at hl 1 rfl) ?_
  refine gx_i (wr := [(q36, .inl (g.2 0, 10, .inl (fun _ => 0)))]) (rVx (rest := [.int 0, .ref q3]) hx hb hml hown hE hP hD hS hA hz 5 rfl rfl (c1758_X9_place l g hlx q1 q15 q19 q22 q30 x2 w5 w6 w7 w8 w9 w10 w11 w12 w13 w14 w18 w23 w25 w26 w27 w28 w29 (.ref q36) w33 w35 f20 (hf21) h31 h38 s.heap.size) (kV_X9_place hE (e946 hE) rfl rfl ⟨(Nat.le_of_ble_eq_true rfl), (Nat.le_of_ble_eq_true rfl)⟩) [1, 2, 3, 4, 5] rfl (by decide) rfl hl.1 rfl (lv_room (Nat.le_of_ble_eq_true rfl)) dL_place_4 ⟨(Nat.le_of_ble_eq_true rfl), (Nat.le_of_ble_eq_true rfl)⟩) hP hD hS hA [1, 2, 3, 4, 5] [0] rfl rfl (by decide) (by decide) (fun ce9 q9 H locs hP hD hS hq1 hq2 hq3 => ?_)
  have hP : va_P g.1 vwCl [(q36, .inl (g.2 0, 10, .inl (fun _ => 0))), (q22, .inr (8, [w23, .ref q30, w25, w26, w27, w28, w29])), (q1, .inr (11, [.ref q15, w5, w6, w7, w8, w9, w10, w11, w12, w13, w14])), (q19, .inl (g.2 3, 10, .inr (.inr (.inr (.inr f20))))), (q15, .inr (10, [.ref q19, .int 0, w18])), (q30, .inr (9, [.ref q36, w33, .int 1, w35]))] H := hP
  have hD : va_D A [(q36, .inl (g.2 0, 10, .inl (fun _ => 0))), (q22, .inr (8, [w23, .ref q30, w25, w26, w27, w28, w29])), (q1, .inr (11, [.ref q15, w5, w6, w7, w8, w9, w10, w11, w12, w13, w14])), (q19, .inl (g.2 3, 10, .inr (.inr (.inr (.inr f20))))), (q15, .inr (10, [.ref q19, .int 0, w18])), (q30, .inr (9, [.ref q36, w33, .int 1, w35]))] := hD
  refine x_catch (name := "java/util/NoSuchElementException") (hh := [(0, 9, 12, 39)]) (tgt := 12) hown htb [] ⟨0, 9, 12, 39⟩ [] rfl (fun _ h => nomatch h) rfl (by decide) (e777 hE) (e785 hE) hq1 hq2 hq3 rfl ?_
  refine lv_astore_n (lv' := [(3, .ref q9), (0, .ref q1), (1, .int x2), (2, .ref q3)]) hx hb dL_place_12 rfl hl (by decide) rfl (fun ls hl => ?_)
  refine lv_iconst (v := 1) hx hb dL_place_13 (by decide) ?_
  exact x_zret hx hb hr rfl rfl hlocks hP hD hS hAe hsz (Nat.le_of_ble_eq_true rfl) (Nat.le_of_ble_eq_true rfl) (fun _ => 0) [] (by decide) rfl dL_place_14

set_option maxHeartbeats 4000000 in
set_option maxRecDepth 100000 in
theorem c1760_X10_place (l : Launch) (g : gG) (q1 q40 : Nat) (x2 : Int32) (w4 w5 w6 w7 w8 w9 w10 w11 w12 w13 w14 w15 w16 w17 w18 w19 w20 w21 w22 w23 w24 w25 w26 w27 w28 w29 w30 w31 w32 w33 w34 w35 w36 w37 w38 w39 : Value) (f41 : Nat → Int32) (hf42 : f41 453 = 1) (h43 : (0 : Int32) ≤ x2) (h44 : (0 : Int32) < x2) (sz : Nat) : Met l yX10_place [Cond.code yX10_place cX10_place 2 (some .int)] ({ frames := 1, cells := 0, slots := 0, locals := 22 } : Room) (va_Pc [.ref q1, .int x2] (PX g sz [(q40, .inl (g.2 0, 497, .inl f41)), (q1, .inr (12, [.ref q40, w4, w5, w6, w7, w8, w9, w10, w11, w12, w13, w14, w15, w16, w17, w18, w19, w20, w21, w22, w23, w24, w25, w26, w27, w28, w29, w30, w31, w32, w33, w34, w35, w36, w37, w38, w39]))])) (QI g [(q40, .inl (g.2 0, 497, .inl f41)), (q1, .inr (12, [.ref q40, w4, w5, w6, w7, w8, w9, w10, w11, w12, w13, w14, w15, w16, w17, w18, w19, w20, w21, w22, w23, w24, w25, w26, w27, w28, w29, w30, w31, w32, w33, w34, w35, w36, w37, w38, w39]))] sz 0 (fun _ => [(q1, .inr (12, [.ref q40, w4, w5, w6, w7, w8, .int 1, w10, w11, w12, w13, w14, w15, w16, w17, w18, w19, w20, w21, w22, w23, w24, w25, w26, w27, w28, w29, w30, w31, w32, w33, w34, w35, w36, w37, w38, w39]))])) 0 0 (va_A [(q40, .inl (g.2 0, 497, .inl f41)), (q1, .inr (12, [.ref q40, w4, w5, w6, w7, w8, w9, w10, w11, w12, w13, w14, w15, w16, w17, w18, w19, w20, w21, w22, w23, w24, w25, w26, w27, w28, w29, w30, w31, w32, w33, w34, w35, w36, w37, w38, w39]))] sz) := by
  refine ofN (by decide) (Nat.le_of_ble_eq_true rfl) rfl ?_
  intro p e s m args below meth c A ls hAe hsz hx hb hml hr hlocks hin hown hE hP hD hA hS hl
  have hown : s.vm.findClass RX10 = some m.cls := hown
  refine lv_aload_n hx hb dX10_place_0 rfl (lv_at hl 0 rfl) ?_
  refine lv_iload_n hx hb dX10_place_1 rfl (lv_at hl 1 rfl) ?_
  refine lv_iconst (v := 0) hx hb dX10_place_2 (by decide) ?_
  refine lv_aload_n hx hb dX10_place_3 rfl (lv_at hl 0 rfl) ?_
  refine gf_RX10_9 hx hb hown hE hP 1 rfl rfl dX10_place_4 ?_
  refine lv_sipush (v := 453) hx hb dX10_place_7 (by decide) ?_
  refine x_iald (v := 1) hx hb hE hP 0 rfl 453 (x_in (by decide)) (by decide) hf42 dX10_place_10 ?_
  refine lv_iconst (v := 1) hx hb dX10_place_11 (by decide) ?_
  refine x_isub (v := 0) hx hb dX10_place_12 (by decide) ?_
  refine g0_i (rS (rest := [.ref q1]) hx hb hml hown hE hP hD (c694_X10_in l g x2 h43 h44 s.heap.size) (kS_X10_in hE (e1431 hE) rfl rfl ⟨(Nat.le_of_ble_eq_true rfl), (Nat.le_of_ble_eq_true rfl)⟩) [] rfl (by decide) rfl hl.1 rfl (lv_room (Nat.le_of_ble_eq_true rfl)) dX10_place_13 ⟨(Nat.le_of_ble_eq_true rfl), (Nat.le_of_ble_eq_true rfl)⟩) hP hD hS hA (fun u9 H locs hP hS => ?_)
  refine lv_if_eq (tgt := 23) hx hb dX10_place_16 (by decide) (fun _ => ?_) (fun h => absurd (by decide) h)
  refine lv_iconst (v := 1) hx hb dX10_place_23 (by decide) ?_
  refine pf_RX10_86 (ws' := [(q40, .inl (g.2 0, 497, .inl f41)), (q1, .inr (12, [.ref q40, w4, w5, w6, w7, w8, .int 1, w10, w11, w12, w13, w14, w15, w16, w17, w18, w19, w20, w21, w22, w23, w24, w25, w26, w27, w28, w29, w30, w31, w32, w33, w34, w35, w36, w37, w38, w39]))]) hx hb hown hE hP hD hS 1 rfl rfl rfl (Nat.le_of_ble_eq_true rfl) dX10_place_24 rfl (fun H locs hP hD hS => ?_)
  refine lv_aload_n hx hb dX10_place_27 rfl (lv_at hl 0 rfl) ?_
  refine gf_RX10_86 hx hb hown hE hP 1 rfl rfl dX10_place_28 ?_
  refine lv_if_le (tgt := 38) hx hb dX10_place_31 (by decide) (fun h => absurd h (by decide)) (fun _ => ?_)
  refine lv_iconst (v := 0) hx hb dX10_place_34 (by decide) ?_
  refine lv_goto (tgt := 50) hx hb dX10_place_35 (by decide) ?_
  exact x_zret hx hb hr rfl rfl hlocks hP hD hS hAe hsz (Nat.le_of_ble_eq_true rfl) (Nat.le_of_ble_eq_true rfl) (fun _ => 0) [1] (by decide) rfl dX10_place_50

set_option maxHeartbeats 4000000 in
set_option maxRecDepth 100000 in
theorem c1761_X9_setSwing (l : Launch) (g : gG) (hlx : l.stackTraces = false) (q1 : Nat) (x2 : Int32) (h3 : x2 < 0) (sz : Nat) : vx_Met l yX9_setSwing [Cond.code yX9_setSwing cX9_setSwing 4 (some .int)] ({ frames := 7, cells := 1, slots := 6, locals := 122 } : Room) (va_Pc [.ref q1, .int x2] (PZ g sz [])) NI (XW g [] sz "java/lang/IllegalArgumentException" []) 1 6 (va_A [] sz) := by
  refine ofX (by decide) (Nat.le_of_ble_eq_true rfl) rfl ?_
  intro p e s m args below meth c A ls hAe hsz hx hb hml hr hlocks hin hown hE hP hD hA hS hl hex hz
  have hown : s.vm.findClass RX9 = some m.cls := hown
  refine lv_iload_n hx hb dX9_setSwing_0 rfl (lv_at hl 1 rfl) ?_
  refine lv_iconst (v := 0) hx hb dX9_setSwing_1 (by decide) ?_
  refine lv_bipush (v := 50) hx hb dX9_setSwing_2 (by decide) ?_
  refine gx_v (wr := []) (rSx (rest := []) hx hb hml hown hE hP hD hS hA hz (c639_X9_requireRange l g hlx x2 50 h3 s.heap.size) (kS_X9_requireRange hE (e636 hE) rfl rfl ⟨(Nat.le_of_ble_eq_true rfl), (Nat.le_of_ble_eq_true rfl)⟩) [] rfl (by decide) rfl hl.1 rfl (lv_room (Nat.le_of_ble_eq_true rfl)) dX9_setSwing_4 ⟨(Nat.le_of_ble_eq_true rfl), (Nat.le_of_ble_eq_true rfl)⟩) hP hD hS hA [] [] rfl rfl (by decide) (by decide) (fun ce9 q9 H locs hP hD hS hq1 hq2 hq3 => ?_)
  exact x_out hex hlocks hq1 hq2 hq3 hP hD hS hAe hsz (Nat.le_of_ble_eq_true rfl) (Nat.le_of_ble_eq_true rfl) [] (by decide) rfl

set_option maxHeartbeats 4000000 in
set_option maxRecDepth 100000 in
theorem c1762_L_setSwing (l : Launch) (g : gG) (hlx : l.stackTraces = false) (q1 q3 : Nat) (x2 : Int32) (w5 w6 w7 w8 w9 w10 w11 w12 w13 w14 w15 : Value) (h4 : x2 < 0) (sz : Nat) : Met l yL_setSwing [Cond.codeWith yL_setSwing cL_setSwing 4 (some .int) [(0, 9, 12, 15)]] ({ frames := 8, cells := 1, slots := 6, locals := 145 } : Room) (va_Pc [.ref q1, .int x2, .ref q3] (PZ g sz [(q1, .inr (11, [w5, w6, w7, w8, w9, w10, w11, w12, w13, w14, w15]))])) (QI g [(q1, .inr (11, [w5, w6, w7, w8, w9, w10, w11, w12, w13, w14, w15]))] sz 1 (fun _ => [])) 1 6 (va_A [(q1, .inr (11, [w5, w6, w7, w8, w9, w10, w11, w12, w13, w14, w15]))] sz) := by
  refine ofH (by decide) (Nat.le_of_ble_eq_true rfl) rfl ?_
  intro p e s m args below meth c A ls hAe hsz hx hb hml hr hlocks hin hown hE hP hD hA hS hl htb hz
  have hown : s.vm.findClass RL = some m.cls := hown
  refine lv_aload_n hx hb dL_setSwing_0 rfl (lv_at hl 2 rfl) ?_
  refine lv_iconst (v := 0) hx hb dL_setSwing_1 (by decide) ?_
  refine lv_aload_n hx hb dL_setSwing_2 rfl (lv_at hl 0 rfl) ?_
  refine lv_iload_n hx hb dL_setSwing_3 rfl (lv_at hl 1 rfl) ?_
  refine gx_i (wr := [(q1, .inr (11, [w5, w6, w7, w8, w9, w10, w11, w12, w13, w14, w15]))]) (rVx (rest := [.int 0, .ref q3]) hx hb hml hown hE hP hD hS hA hz 0 rfl rfl (c1761_X9_setSwing l g hlx q1 x2 h4 s.heap.size) (kV_X9_setSwing hE (e955 hE) rfl rfl ⟨(Nat.le_of_ble_eq_true rfl), (Nat.le_of_ble_eq_true rfl)⟩) [] rfl (by decide) rfl hl.1 rfl (lv_room (Nat.le_of_ble_eq_true rfl)) dL_setSwing_4 ⟨(Nat.le_of_ble_eq_true rfl), (Nat.le_of_ble_eq_true rfl)⟩) hP hD hS hA [] [0] rfl rfl (by decide) (by decide) (fun ce9 q9 H locs hP hD hS hq1 hq2 hq3 => ?_)
  have hP : va_P g.1 vwCl [(q1, .inr (11, [w5, w6, w7, w8, w9, w10, w11, w12, w13, w14, w15]))] H := hP
  have hD : va_D A [(q1, .inr (11, [w5, w6, w7, w8, w9, w10, w11, w12, w13, w14, w15]))] := hD
  refine x_catch (name := "java/lang/IllegalArgumentException") (hh := [(0, 9, 12, 15)]) (tgt := 12) hown htb [] ⟨0, 9, 12, 15⟩ [] rfl (fun _ h => nomatch h) rfl (by decide) (e611 hE) (e641 hE) hq1 hq2 hq3 rfl ?_
  refine lv_astore_n (lv' := [(3, .ref q9), (0, .ref q1), (1, .int x2), (2, .ref q3)]) hx hb dL_setSwing_12 rfl hl (by decide) rfl (fun ls hl => ?_)
  refine lv_iconst (v := 1) hx hb dL_setSwing_13 (by decide) ?_
  exact x_zret hx hb hr rfl rfl hlocks hP hD hS hAe hsz (Nat.le_of_ble_eq_true rfl) (Nat.le_of_ble_eq_true rfl) (fun _ => 0) [] (by decide) rfl dL_setSwing_14

set_option maxHeartbeats 4000000 in
set_option maxRecDepth 100000 in
theorem c1763_X10_sets (l : Launch) (g : gG) (q1 : Nat) (x2 : Int32) (w4 w5 w6 w7 w8 w9 w10 w11 w12 w13 w14 w15 w16 w17 w18 w19 w20 w21 w22 w23 w24 w25 w26 w27 w28 w29 w30 w31 w32 w33 w34 w35 w36 w37 w38 w39 w40 : Value) (h3 : x2 < 0) (sz : Nat) : Met l yX10_sets [Cond.code yX10_sets cX10_sets 7 (some .int)] ({ frames := 1, cells := 0, slots := 0, locals := 22 } : Room) (va_Pc [.ref q1, .int 494, .int x2, .int 0, .int 50, .int 1] (PX g sz [(q1, .inr (12, [w4, w5, w6, w7, w8, w9, w10, w11, w12, w13, w14, w15, w16, w17, w18, w19, w20, w21, w22, w23, w24, w25, w26, w27, w28, w29, w30, w31, w32, w33, w34, w35, w36, w37, w38, w39, w40]))])) (QI g [(q1, .inr (12, [w4, w5, w6, w7, w8, w9, w10, w11, w12, w13, w14, w15, w16, w17, w18, w19, w20, w21, w22, w23, w24, w25, w26, w27, w28, w29, w30, w31, w32, w33, w34, w35, w36, w37, w38, w39, w40]))] sz 0 (fun _ => [(q1, .inr (12, [w4, w5, w6, w7, w8, w9, .int 1, w11, w12, w13, w14, w15, w16, w17, w18, w19, w20, w21, w22, w23, w24, w25, w26, w27, w28, w29, w30, w31, w32, w33, w34, w35, w36, w37, w38, w39, w40]))])) 0 0 (va_A [(q1, .inr (12, [w4, w5, w6, w7, w8, w9, w10, w11, w12, w13, w14, w15, w16, w17, w18, w19, w20, w21, w22, w23, w24, w25, w26, w27, w28, w29, w30, w31, w32, w33, w34, w35, w36, w37, w38, w39, w40]))] sz) := by
  refine ofN (by decide) (Nat.le_of_ble_eq_true rfl) rfl ?_
  intro p e s m args below meth c A ls hAe hsz hx hb hml hr hlocks hin hown hE hP hD hA hS hl
  have hown : s.vm.findClass RX10 = some m.cls := hown
  refine lv_aload_n hx hb dX10_sets_0 rfl (lv_at hl 0 rfl) ?_
  refine lv_iload_n hx hb dX10_sets_1 rfl (lv_at hl 2 rfl) ?_
  refine lv_iload_n hx hb dX10_sets_2 rfl (lv_at hl 3 rfl) ?_
  refine lv_iload hx hb dX10_sets_3 (lv_at hl 4 rfl) ?_
  refine g0_i (rS (rest := [.ref q1]) hx hb hml hown hE hP hD (c642_X10_in l g x2 50 h3 s.heap.size) (kS_X10_in hE (e1431 hE) rfl rfl ⟨(Nat.le_of_ble_eq_true rfl), (Nat.le_of_ble_eq_true rfl)⟩) [] rfl (by decide) rfl hl.1 rfl (lv_room (Nat.le_of_ble_eq_true rfl)) dX10_sets_5 ⟨(Nat.le_of_ble_eq_true rfl), (Nat.le_of_ble_eq_true rfl)⟩) hP hD hS hA (fun u9 H locs hP hS => ?_)
  refine lv_if_eq (tgt := 15) hx hb dX10_sets_8 (by decide) (fun _ => ?_) (fun h => absurd (by decide) h)
  refine lv_iload hx hb dX10_sets_15 (lv_at hl 5 rfl) ?_
  refine pf_RX10_86 (ws' := [(q1, .inr (12, [w4, w5, w6, w7, w8, w9, .int 1, w11, w12, w13, w14, w15, w16, w17, w18, w19, w20, w21, w22, w23, w24, w25, w26, w27, w28, w29, w30, w31, w32, w33, w34, w35, w36, w37, w38, w39, w40]))]) hx hb hown hE hP hD hS 0 rfl rfl rfl (Nat.le_of_ble_eq_true rfl) dX10_sets_17 rfl (fun H locs hP hD hS => ?_)
  refine lv_aload_n hx hb dX10_sets_20 rfl (lv_at hl 0 rfl) ?_
  refine gf_RX10_86 hx hb hown hE hP 0 rfl rfl dX10_sets_21 ?_
  refine lv_if_le (tgt := 29) hx hb dX10_sets_24 (by decide) (fun h => absurd h (by decide)) (fun _ => ?_)
  refine lv_iconst (v := 0) hx hb dX10_sets_27 (by decide) ?_
  exact x_zret hx hb hr rfl rfl hlocks hP hD hS hAe hsz (Nat.le_of_ble_eq_true rfl) (Nat.le_of_ble_eq_true rfl) (fun _ => 0) [0] (by decide) rfl dX10_sets_28

set_option maxHeartbeats 4000000 in
set_option maxRecDepth 100000 in
theorem c1764_X10_setSwing (l : Launch) (g : gG) (q1 : Nat) (x2 : Int32) (w4 w5 w6 w7 w8 w9 w10 w11 w12 w13 w14 w15 w16 w17 w18 w19 w20 w21 w22 w23 w24 w25 w26 w27 w28 w29 w30 w31 w32 w33 w34 w35 w36 w37 w38 w39 w40 : Value) (h3 : x2 < 0) (sz : Nat) : Met l yX10_setSwing [Cond.code yX10_setSwing cX10_setSwing 2 (some .int)] ({ frames := 2, cells := 0, slots := 0, locals := 48 } : Room) (va_Pc [.ref q1, .int x2] (PX g sz [(q1, .inr (12, [w4, w5, w6, w7, w8, w9, w10, w11, w12, w13, w14, w15, w16, w17, w18, w19, w20, w21, w22, w23, w24, w25, w26, w27, w28, w29, w30, w31, w32, w33, w34, w35, w36, w37, w38, w39, w40]))])) (QI g [(q1, .inr (12, [w4, w5, w6, w7, w8, w9, w10, w11, w12, w13, w14, w15, w16, w17, w18, w19, w20, w21, w22, w23, w24, w25, w26, w27, w28, w29, w30, w31, w32, w33, w34, w35, w36, w37, w38, w39, w40]))] sz 0 (fun _ => [(q1, .inr (12, [w4, w5, w6, w7, w8, w9, .int 1, w11, w12, w13, w14, w15, w16, w17, w18, w19, w20, w21, w22, w23, w24, w25, w26, w27, w28, w29, w30, w31, w32, w33, w34, w35, w36, w37, w38, w39, w40]))])) 0 0 (va_A [(q1, .inr (12, [w4, w5, w6, w7, w8, w9, w10, w11, w12, w13, w14, w15, w16, w17, w18, w19, w20, w21, w22, w23, w24, w25, w26, w27, w28, w29, w30, w31, w32, w33, w34, w35, w36, w37, w38, w39, w40]))] sz) := by
  refine ofN (by decide) (Nat.le_of_ble_eq_true rfl) rfl ?_
  intro p e s m args below meth c A ls hAe hsz hx hb hml hr hlocks hin hown hE hP hD hA hS hl
  have hown : s.vm.findClass RX10 = some m.cls := hown
  refine lv_aload_n hx hb dX10_setSwing_0 rfl (lv_at hl 0 rfl) ?_
  refine lv_sipush (v := 494) hx hb dX10_setSwing_1 (by decide) ?_
  refine lv_iload_n hx hb dX10_setSwing_4 rfl (lv_at hl 1 rfl) ?_
  refine lv_iconst (v := 0) hx hb dX10_setSwing_5 (by decide) ?_
  refine lv_bipush (v := 50) hx hb dX10_setSwing_6 (by decide) ?_
  refine lv_iconst (v := 1) hx hb dX10_setSwing_8 (by decide) ?_
  refine g_i (wr := []) (rV (rest := []) hx hb hml hown hE hP hD 0 rfl rfl (c1763_X10_sets l g q1 x2 w4 w5 w6 w7 w8 w9 w10 w11 w12 w13 w14 w15 w16 w17 w18 w19 w20 w21 w22 w23 w24 w25 w26 w27 w28 w29 w30 w31 w32 w33 w34 w35 w36 w37 w38 w39 w40 h3 s.heap.size) (kV_X10_sets hE (e1628 hE) rfl rfl ⟨(Nat.le_of_ble_eq_true rfl), (Nat.le_of_ble_eq_true rfl)⟩) [0] rfl (by decide) rfl hl.1 rfl (lv_room (Nat.le_of_ble_eq_true rfl)) dX10_setSwing_9 ⟨(Nat.le_of_ble_eq_true rfl), (Nat.le_of_ble_eq_true rfl)⟩) hP hD hS hA [0] [] rfl rfl (by decide) (by decide) (fun u1 H locs hP hD hS => ?_)
  have hP : va_P g.1 vwCl [(q1, .inr (12, [w4, w5, w6, w7, w8, w9, .int 1, w11, w12, w13, w14, w15, w16, w17, w18, w19, w20, w21, w22, w23, w24, w25, w26, w27, w28, w29, w30, w31, w32, w33, w34, w35, w36, w37, w38, w39, w40]))] H := hP
  have hD : va_D A [(q1, .inr (12, [w4, w5, w6, w7, w8, w9, .int 1, w11, w12, w13, w14, w15, w16, w17, w18, w19, w20, w21, w22, w23, w24, w25, w26, w27, w28, w29, w30, w31, w32, w33, w34, w35, w36, w37, w38, w39, w40]))] := hD
  exact x_zret hx hb hr rfl rfl hlocks hP hD hS hAe hsz (Nat.le_of_ble_eq_true rfl) (Nat.le_of_ble_eq_true rfl) (fun _ => 0) [0] (by decide) rfl dX10_setSwing_12

set_option maxHeartbeats 4000000 in
set_option maxRecDepth 100000 in
theorem c1765_X9_requireRange (l : Launch) (g : gG) (x1 : Int32) (h2 : (0 : Int32) ≤ x1) (h3 : x1 ≤ 50) (sz : Nat) : Met l yX9_requireRange [Cond.code yX9_requireRange cX9_requireRange 3 none] ({ frames := 0, cells := 0, slots := 0, locals := 0 } : Room) (va_Pc [.int x1, .int 0, .int 50] (PX g sz [])) (QV g [] sz (fun _ => [])) 0 0 (va_A [] sz) := by
  refine ofN (by decide) (Nat.le_of_ble_eq_true rfl) rfl ?_
  intro p e s m args below meth c A ls hAe hsz hx hb hml hr hlocks hin hown hE hP hD hA hS hl
  have hown : s.vm.findClass RX9 = some m.cls := hown
  refine lv_iload_n hx hb dX9_requireRange_0 rfl (lv_at hl 0 rfl) ?_
  refine lv_iload_n hx hb dX9_requireRange_1 rfl (lv_at hl 1 rfl) ?_
  refine lv_icmp_lt (tgt := 10) hx hb dX9_requireRange_2 (by decide) (fun h => absurd h (i_nlt h2)) (fun _ => ?_)
  refine lv_iload_n hx hb dX9_requireRange_5 rfl (lv_at hl 0 rfl) ?_
  refine lv_iload_n hx hb dX9_requireRange_6 rfl (lv_at hl 2 rfl) ?_
  refine lv_icmp_le (tgt := 21) hx hb dX9_requireRange_7 (by decide) (fun _ => ?_) (fun h => absurd h3 h)
  exact x_vret hx hb hr hlocks hP hD hS hAe hsz (Nat.le_of_ble_eq_true rfl) (Nat.le_of_ble_eq_true rfl) (fun _ => 0) [] (by decide) rfl dX9_requireRange_21

set_option maxHeartbeats 4000000 in
set_option maxRecDepth 100000 in
theorem c1766_X9_setSwing (l : Launch) (g : gG) (q1 q16 q20 q23 q25 q33 q34 q35 q36 q44 q45 q46 q47 q50 q51 q54 q55 q62 q63 q68 q69 : Nat) (x2 : Int32) (w6 w7 w8 w9 w10 w11 w12 w13 w14 w15 w30 w31 w32 w66 w67 : Value) (f21 : Nat → Option Nat) (f56 : Nat → Int32) (f57 : Nat → Int32) (f70 : Nat → Int32) (f71 : Nat → Int32) (hf22 : f21 1 = some q23) (hf24 : f21 0 = some q25) (h3 : (0 : Int32) ≤ x2) (h4 : x2 ≤ 50) (sz : Nat) : Met l yX9_setSwing [Cond.code yX9_setSwing cX9_setSwing 4 (some .int)] ({ frames := 5, cells := 0, slots := 0, locals := 148 } : Room) (va_Pc [.ref q1, .int x2] (PX g sz [(q36, .inl (g.2 0, 20, .inl f71)), (q47, .inl (g.2 0, 20, .inl f71)), (q35, .inl (g.2 0, 60, .inl f56)), (q46, .inl (g.2 0, 60, .inl f56)), (q69, .inl (g.2 0, 10, .inl f70)), (q63, .inl (g.2 0, 10, .inl f70)), (q68, .inl (g.2 0, 10, .inl f56)), (q62, .inl (g.2 0, 10, .inl f56)), (q34, .inr (9, [.ref q68, .ref q69, w66, w67])), (q45, .inr (9, [.ref q62, .ref q63, .int 1, .int 0])), (q55, .inl (g.2 0, 40, .inl f57)), (q51, .inl (g.2 0, 40, .inl f57)), (q54, .inl (g.2 0, 384, .inl f56)), (q50, .inl (g.2 0, 384, .inl f56)), (q33, .inr (5, [.ref q54, .ref q55])), (q44, .inr (5, [.ref q50, .ref q51])), (q25, .inr (8, [.ref q44, .ref q45, .ref q46, .ref q47, .int 0, .int 4, .int 0])), (q23, .inr (8, [.ref q33, .ref q34, .ref q35, .ref q36, w30, w31, w32])), (q20, .inl (g.2 3, 10, .inr (.inr (.inr (.inr f21))))), (q16, .inr (10, [.ref q20, .int 0, .int 0])), (q1, .inr (11, [.ref q16, w6, w7, w8, w9, w10, w11, w12, w13, w14, w15]))])) (QI g [(q36, .inl (g.2 0, 20, .inl f71)), (q47, .inl (g.2 0, 20, .inl f71)), (q35, .inl (g.2 0, 60, .inl f56)), (q46, .inl (g.2 0, 60, .inl f56)), (q69, .inl (g.2 0, 10, .inl f70)), (q63, .inl (g.2 0, 10, .inl f70)), (q68, .inl (g.2 0, 10, .inl f56)), (q62, .inl (g.2 0, 10, .inl f56)), (q34, .inr (9, [.ref q68, .ref q69, w66, w67])), (q45, .inr (9, [.ref q62, .ref q63, .int 1, .int 0])), (q55, .inl (g.2 0, 40, .inl f57)), (q51, .inl (g.2 0, 40, .inl f57)), (q54, .inl (g.2 0, 384, .inl f56)), (q50, .inl (g.2 0, 384, .inl f56)), (q33, .inr (5, [.ref q54, .ref q55])), (q44, .inr (5, [.ref q50, .ref q51])), (q25, .inr (8, [.ref q44, .ref q45, .ref q46, .ref q47, .int 0, .int 4, .int 0])), (q23, .inr (8, [.ref q33, .ref q34, .ref q35, .ref q36, w30, w31, w32])), (q20, .inl (g.2 3, 10, .inr (.inr (.inr (.inr f21))))), (q16, .inr (10, [.ref q20, .int 0, .int 0])), (q1, .inr (11, [.ref q16, w6, w7, w8, w9, w10, w11, w12, w13, w14, w15]))] sz 0 (fun _ => [(q20, .inl (g.2 3, 10, .inr (.inr (.inr (.inr f21))))), (q25, .inr (8, [.ref q44, .ref q45, .ref q46, .ref q47, .int 0, .int 4, .int 0])), (q23, .inr (8, [.ref q33, .ref q34, .ref q35, .ref q36, .int 0, .int 4, .int 0])), (q33, .inr (5, [.ref q54, .ref q55])), (q44, .inr (5, [.ref q50, .ref q51])), (q54, .inl (g.2 0, 384, .inl f56)), (q50, .inl (g.2 0, 384, .inl f56)), (q55, .inl (g.2 0, 40, .inl f57)), (q51, .inl (g.2 0, 40, .inl f57)), (q34, .inr (9, [.ref q68, .ref q69, .int 1, .int x2])), (q45, .inr (9, [.ref q62, .ref q63, .int 1, .int 0])), (q68, .inl (g.2 0, 10, .inl f56)), (q62, .inl (g.2 0, 10, .inl f56)), (q69, .inl (g.2 0, 10, .inl f70)), (q63, .inl (g.2 0, 10, .inl f70)), (q35, .inl (g.2 0, 60, .inl f56)), (q46, .inl (g.2 0, 60, .inl f56)), (q36, .inl (g.2 0, 20, .inl f71)), (q47, .inl (g.2 0, 20, .inl f71)), (q16, .inr (10, [.ref q20, .int 1, .int 1])), (q1, .inr (11, [.ref q16, w6, w7, w8, w9, w10, w11, w12, .int 0, .int 0, w15]))])) 0 0 (va_A [(q36, .inl (g.2 0, 20, .inl f71)), (q47, .inl (g.2 0, 20, .inl f71)), (q35, .inl (g.2 0, 60, .inl f56)), (q46, .inl (g.2 0, 60, .inl f56)), (q69, .inl (g.2 0, 10, .inl f70)), (q63, .inl (g.2 0, 10, .inl f70)), (q68, .inl (g.2 0, 10, .inl f56)), (q62, .inl (g.2 0, 10, .inl f56)), (q34, .inr (9, [.ref q68, .ref q69, w66, w67])), (q45, .inr (9, [.ref q62, .ref q63, .int 1, .int 0])), (q55, .inl (g.2 0, 40, .inl f57)), (q51, .inl (g.2 0, 40, .inl f57)), (q54, .inl (g.2 0, 384, .inl f56)), (q50, .inl (g.2 0, 384, .inl f56)), (q33, .inr (5, [.ref q54, .ref q55])), (q44, .inr (5, [.ref q50, .ref q51])), (q25, .inr (8, [.ref q44, .ref q45, .ref q46, .ref q47, .int 0, .int 4, .int 0])), (q23, .inr (8, [.ref q33, .ref q34, .ref q35, .ref q36, w30, w31, w32])), (q20, .inl (g.2 3, 10, .inr (.inr (.inr (.inr f21))))), (q16, .inr (10, [.ref q20, .int 0, .int 0])), (q1, .inr (11, [.ref q16, w6, w7, w8, w9, w10, w11, w12, w13, w14, w15]))] sz) := by
  refine ofN (by decide) (Nat.le_of_ble_eq_true rfl) rfl ?_
  intro p e s m args below meth c A ls hAe hsz hx hb hml hr hlocks hin hown hE hP hD hA hS hl
  have hown : s.vm.findClass RX9 = some m.cls := hown
  refine lv_iload_n hx hb dX9_setSwing_0 rfl (lv_at hl 1 rfl) ?_
  refine lv_iconst (v := 0) hx hb dX9_setSwing_1 (by decide) ?_
  refine lv_bipush (v := 50) hx hb dX9_setSwing_2 (by decide) ?_
  refine g0_v (rS (rest := []) hx hb hml hown hE hP hD (c1765_X9_requireRange l g x2 h3 h4 s.heap.size) (kS_X9_requireRange hE (e636 hE) rfl rfl ⟨(Nat.le_of_ble_eq_true rfl), (Nat.le_of_ble_eq_true rfl)⟩) [] rfl (by decide) rfl hl.1 rfl (lv_room (Nat.le_of_ble_eq_true rfl)) dX9_setSwing_4 ⟨(Nat.le_of_ble_eq_true rfl), (Nat.le_of_ble_eq_true rfl)⟩) hP hD hS hA (fun u9 H locs hP hS => ?_)
  refine lv_aload_n hx hb dX9_setSwing_7 rfl (lv_at hl 0 rfl) ?_
  refine gf_RX9_12 hx hb hown hE hP 20 rfl rfl dX9_setSwing_8 ?_
  refine g_r (wr := [(q1, .inr (11, [.ref q16, w6, w7, w8, w9, w10, w11, w12, w13, w14, w15]))]) (rV (rest := []) hx hb hml hown hE hP hD 19 rfl rfl (c127_X8_draft l g q16 q20 q23 q25 q33 q44 q50 q54 q51 q55 q34 q45 q62 q68 q63 q69 q46 q35 q47 q36 (.int 0) w30 w31 w32 w66 w67 f21 f56 f57 f70 f71 (hf22) (hf24) H.size) (kV_X8_draft hE (e659 hE) rfl rfl ⟨(Nat.le_of_ble_eq_true rfl), (Nat.le_of_ble_eq_true rfl)⟩) [0, 1, 2, 3, 4, 5, 6, 7, 8, 9, 10, 11, 12, 13, 14, 15, 16, 17, 18, 19] rfl (by decide) rfl hl.1 rfl (lv_room (Nat.le_of_ble_eq_true rfl)) dX9_setSwing_11 ⟨(Nat.le_of_ble_eq_true rfl), (Nat.le_of_ble_eq_true rfl)⟩) hP hD hS hA [0, 1, 2, 3, 4, 5, 6, 7, 8, 9, 10, 11, 12, 13, 14, 15, 16, 17, 18, 19] [20] rfl rfl (by decide) (by decide) (fun u2 H locs hP hD hS => ?_)
  have hP : va_P g.1 vwCl [(q1, .inr (11, [.ref q16, w6, w7, w8, w9, w10, w11, w12, w13, w14, w15])), (q20, .inl (g.2 3, 10, .inr (.inr (.inr (.inr f21))))), (q16, .inr (10, [.ref q20, .int 0, .int 0])), (q25, .inr (8, [.ref q44, .ref q45, .ref q46, .ref q47, .int 0, .int 4, .int 0])), (q23, .inr (8, [.ref q33, .ref q34, .ref q35, .ref q36, .int 0, .int 4, .int 0])), (q33, .inr (5, [.ref q54, .ref q55])), (q44, .inr (5, [.ref q50, .ref q51])), (q54, .inl (g.2 0, 384, .inl f56)), (q50, .inl (g.2 0, 384, .inl f56)), (q55, .inl (g.2 0, 40, .inl f57)), (q51, .inl (g.2 0, 40, .inl f57)), (q34, .inr (9, [.ref q68, .ref q69, .int 1, .int 0])), (q45, .inr (9, [.ref q62, .ref q63, .int 1, .int 0])), (q68, .inl (g.2 0, 10, .inl f56)), (q62, .inl (g.2 0, 10, .inl f56)), (q69, .inl (g.2 0, 10, .inl f70)), (q63, .inl (g.2 0, 10, .inl f70)), (q35, .inl (g.2 0, 60, .inl f56)), (q46, .inl (g.2 0, 60, .inl f56)), (q36, .inl (g.2 0, 20, .inl f71)), (q47, .inl (g.2 0, 20, .inl f71))] H := hP
  have hD : va_D A [(q1, .inr (11, [.ref q16, w6, w7, w8, w9, w10, w11, w12, w13, w14, w15])), (q20, .inl (g.2 3, 10, .inr (.inr (.inr (.inr f21))))), (q16, .inr (10, [.ref q20, .int 0, .int 0])), (q25, .inr (8, [.ref q44, .ref q45, .ref q46, .ref q47, .int 0, .int 4, .int 0])), (q23, .inr (8, [.ref q33, .ref q34, .ref q35, .ref q36, .int 0, .int 4, .int 0])), (q33, .inr (5, [.ref q54, .ref q55])), (q44, .inr (5, [.ref q50, .ref q51])), (q54, .inl (g.2 0, 384, .inl f56)), (q50, .inl (g.2 0, 384, .inl f56)), (q55, .inl (g.2 0, 40, .inl f57)), (q51, .inl (g.2 0, 40, .inl f57)), (q34, .inr (9, [.ref q68, .ref q69, .int 1, .int 0])), (q45, .inr (9, [.ref q62, .ref q63, .int 1, .int 0])), (q68, .inl (g.2 0, 10, .inl f56)), (q62, .inl (g.2 0, 10, .inl f56)), (q69, .inl (g.2 0, 10, .inl f70)), (q63, .inl (g.2 0, 10, .inl f70)), (q35, .inl (g.2 0, 60, .inl f56)), (q46, .inl (g.2 0, 60, .inl f56)), (q36, .inl (g.2 0, 20, .inl f71)), (q47, .inl (g.2 0, 20, .inl f71))] := hD
  refine lv_astore_n (lv' := [(2, .ref q23), (0, .ref q1), (1, .int x2)]) hx hb dX9_setSwing_14 rfl hl (by decide) rfl (fun ls hl => ?_)
  refine lv_aload_n hx hb dX9_setSwing_15 rfl (lv_at hl 0 rfl) ?_
  refine gf_RX9_193 hx hb hown hE hP 4 rfl rfl dX9_setSwing_16 ?_
  refine gf_RX9_202 hx hb hown hE hP 11 rfl rfl dX9_setSwing_19 ?_
  refine lv_istore_n (lv' := [(3, .int 0), (2, .ref q23), (0, .ref q1), (1, .int x2)]) hx hb dX9_setSwing_22 rfl hl (by decide) rfl (fun ls hl => ?_)
  refine lv_aload_n hx hb dX9_setSwing_23 rfl (lv_at hl 1 rfl) ?_
  refine gf_RX9_193 hx hb hown hE hP 4 rfl rfl dX9_setSwing_24 ?_
  refine lv_iload_n hx hb dX9_setSwing_27 rfl (lv_at hl 3 rfl) ?_
  refine pf_RX9_202 (ws' := [(q1, .inr (11, [.ref q16, w6, w7, w8, w9, w10, w11, w12, w13, w14, w15])), (q20, .inl (g.2 3, 10, .inr (.inr (.inr (.inr f21))))), (q16, .inr (10, [.ref q20, .int 0, .int 0])), (q25, .inr (8, [.ref q44, .ref q45, .ref q46, .ref q47, .int 0, .int 4, .int 0])), (q23, .inr (8, [.ref q33, .ref q34, .ref q35, .ref q36, .int 0, .int 4, .int 0])), (q33, .inr (5, [.ref q54, .ref q55])), (q44, .inr (5, [.ref q50, .ref q51])), (q54, .inl (g.2 0, 384, .inl f56)), (q50, .inl (g.2 0, 384, .inl f56)), (q55, .inl (g.2 0, 40, .inl f57)), (q51, .inl (g.2 0, 40, .inl f57)), (q34, .inr (9, [.ref q68, .ref q69, .int 1, .int x2])), (q45, .inr (9, [.ref q62, .ref q63, .int 1, .int 0])), (q68, .inl (g.2 0, 10, .inl f56)), (q62, .inl (g.2 0, 10, .inl f56)), (q69, .inl (g.2 0, 10, .inl f70)), (q63, .inl (g.2 0, 10, .inl f70)), (q35, .inl (g.2 0, 60, .inl f56)), (q46, .inl (g.2 0, 60, .inl f56)), (q36, .inl (g.2 0, 20, .inl f71)), (q47, .inl (g.2 0, 20, .inl f71))]) hx hb hown hE hP hD hS 11 rfl rfl rfl (Nat.le_of_ble_eq_true rfl) dX9_setSwing_28 rfl (fun H locs hP hD hS => ?_)
  refine lv_aload_n hx hb dX9_setSwing_31 rfl (lv_at hl 2 rfl) ?_
  refine g_v (wr := [(q20, .inl (g.2 3, 10, .inr (.inr (.inr (.inr f21))))), (q25, .inr (8, [.ref q44, .ref q45, .ref q46, .ref q47, .int 0, .int 4, .int 0])), (q23, .inr (8, [.ref q33, .ref q34, .ref q35, .ref q36, .int 0, .int 4, .int 0])), (q33, .inr (5, [.ref q54, .ref q55])), (q44, .inr (5, [.ref q50, .ref q51])), (q54, .inl (g.2 0, 384, .inl f56)), (q50, .inl (g.2 0, 384, .inl f56)), (q55, .inl (g.2 0, 40, .inl f57)), (q51, .inl (g.2 0, 40, .inl f57)), (q34, .inr (9, [.ref q68, .ref q69, .int 1, .int x2])), (q45, .inr (9, [.ref q62, .ref q63, .int 1, .int 0])), (q68, .inl (g.2 0, 10, .inl f56)), (q62, .inl (g.2 0, 10, .inl f56)), (q69, .inl (g.2 0, 10, .inl f70)), (q63, .inl (g.2 0, 10, .inl f70)), (q35, .inl (g.2 0, 60, .inl f56)), (q46, .inl (g.2 0, 60, .inl f56)), (q36, .inl (g.2 0, 20, .inl f71)), (q47, .inl (g.2 0, 20, .inl f71))]) (rV (rest := []) hx hb hml hown hE hP hD 0 rfl rfl (c191_X9_accept l g q1 q16 w6 w7 w8 w9 w10 w11 w12 w13 w14 w15 (.ref q20) H.size) (kV_X9_accept hE (e718 hE) rfl rfl ⟨(Nat.le_of_ble_eq_true rfl), (Nat.le_of_ble_eq_true rfl)⟩) [2, 0] rfl (by decide) rfl hl.1 rfl (lv_room (Nat.le_of_ble_eq_true rfl)) dX9_setSwing_32 ⟨(Nat.le_of_ble_eq_true rfl), (Nat.le_of_ble_eq_true rfl)⟩) hP hD hS hA [2, 0] [1, 3, 4, 5, 6, 7, 8, 9, 10, 11, 12, 13, 14, 15, 16, 17, 18, 19, 20] rfl rfl (by decide) (by decide) (fun u3 H locs hP hD hS => ?_)
  have hP : va_P g.1 vwCl [(q20, .inl (g.2 3, 10, .inr (.inr (.inr (.inr f21))))), (q25, .inr (8, [.ref q44, .ref q45, .ref q46, .ref q47, .int 0, .int 4, .int 0])), (q23, .inr (8, [.ref q33, .ref q34, .ref q35, .ref q36, .int 0, .int 4, .int 0])), (q33, .inr (5, [.ref q54, .ref q55])), (q44, .inr (5, [.ref q50, .ref q51])), (q54, .inl (g.2 0, 384, .inl f56)), (q50, .inl (g.2 0, 384, .inl f56)), (q55, .inl (g.2 0, 40, .inl f57)), (q51, .inl (g.2 0, 40, .inl f57)), (q34, .inr (9, [.ref q68, .ref q69, .int 1, .int x2])), (q45, .inr (9, [.ref q62, .ref q63, .int 1, .int 0])), (q68, .inl (g.2 0, 10, .inl f56)), (q62, .inl (g.2 0, 10, .inl f56)), (q69, .inl (g.2 0, 10, .inl f70)), (q63, .inl (g.2 0, 10, .inl f70)), (q35, .inl (g.2 0, 60, .inl f56)), (q46, .inl (g.2 0, 60, .inl f56)), (q36, .inl (g.2 0, 20, .inl f71)), (q47, .inl (g.2 0, 20, .inl f71)), (q16, .inr (10, [.ref q20, .int 1, .int 1])), (q1, .inr (11, [.ref q16, w6, w7, w8, w9, w10, w11, w12, .int 0, .int 0, w15]))] H := hP
  have hD : va_D A [(q20, .inl (g.2 3, 10, .inr (.inr (.inr (.inr f21))))), (q25, .inr (8, [.ref q44, .ref q45, .ref q46, .ref q47, .int 0, .int 4, .int 0])), (q23, .inr (8, [.ref q33, .ref q34, .ref q35, .ref q36, .int 0, .int 4, .int 0])), (q33, .inr (5, [.ref q54, .ref q55])), (q44, .inr (5, [.ref q50, .ref q51])), (q54, .inl (g.2 0, 384, .inl f56)), (q50, .inl (g.2 0, 384, .inl f56)), (q55, .inl (g.2 0, 40, .inl f57)), (q51, .inl (g.2 0, 40, .inl f57)), (q34, .inr (9, [.ref q68, .ref q69, .int 1, .int x2])), (q45, .inr (9, [.ref q62, .ref q63, .int 1, .int 0])), (q68, .inl (g.2 0, 10, .inl f56)), (q62, .inl (g.2 0, 10, .inl f56)), (q69, .inl (g.2 0, 10, .inl f70)), (q63, .inl (g.2 0, 10, .inl f70)), (q35, .inl (g.2 0, 60, .inl f56)), (q46, .inl (g.2 0, 60, .inl f56)), (q36, .inl (g.2 0, 20, .inl f71)), (q47, .inl (g.2 0, 20, .inl f71)), (q16, .inr (10, [.ref q20, .int 1, .int 1])), (q1, .inr (11, [.ref q16, w6, w7, w8, w9, w10, w11, w12, .int 0, .int 0, w15]))] := hD
  refine lv_iload_n hx hb dX9_setSwing_35 rfl (lv_at hl 0 rfl) ?_
  exact x_zret hx hb hr rfl rfl hlocks hP hD hS hAe hsz (Nat.le_of_ble_eq_true rfl) (Nat.le_of_ble_eq_true rfl) (fun _ => 0) [0, 1, 2, 3, 4, 5, 6, 7, 8, 9, 10, 11, 12, 13, 14, 15, 16, 17, 18, 19, 20] (by decide) rfl dX9_setSwing_36

set_option maxHeartbeats 4000000 in
set_option maxRecDepth 100000 in
theorem c1767_L_setSwing (l : Launch) (g : gG) (hlx : l.stackTraces = false) (q1 q3 q17 q21 q24 q26 q34 q35 q36 q37 q45 q46 q47 q48 q51 q52 q55 q56 q63 q64 q69 q70 : Nat) (x2 : Int32) (w7 w8 w9 w10 w11 w12 w13 w14 w15 w16 w31 w32 w33 w67 w68 : Value) (f22 : Nat → Option Nat) (f57 : Nat → Int32) (f58 : Nat → Int32) (f71 : Nat → Int32) (f72 : Nat → Int32) (f73 : Nat → Int64) (hf23 : f22 1 = some q24) (hf25 : f22 0 = some q26) (h4 : (0 : Int32) ≤ x2) (h5 : x2 ≤ 50) (sz : Nat) : Met l yL_setSwing [Cond.codeWith yL_setSwing cL_setSwing 4 (some .int) [(0, 9, 12, 15)]] ({ frames := 6, cells := 0, slots := 0, locals := 171 } : Room) (va_Pc [.ref q1, .int x2, .ref q3] (PZ g sz [(q3, .inl (g.2 1, 1, .inr (.inl f73))), (q37, .inl (g.2 0, 20, .inl f72)), (q48, .inl (g.2 0, 20, .inl f72)), (q36, .inl (g.2 0, 60, .inl f57)), (q47, .inl (g.2 0, 60, .inl f57)), (q70, .inl (g.2 0, 10, .inl f71)), (q64, .inl (g.2 0, 10, .inl f71)), (q69, .inl (g.2 0, 10, .inl f57)), (q63, .inl (g.2 0, 10, .inl f57)), (q35, .inr (9, [.ref q69, .ref q70, w67, w68])), (q46, .inr (9, [.ref q63, .ref q64, .int 1, .int 0])), (q56, .inl (g.2 0, 40, .inl f58)), (q52, .inl (g.2 0, 40, .inl f58)), (q55, .inl (g.2 0, 384, .inl f57)), (q51, .inl (g.2 0, 384, .inl f57)), (q34, .inr (5, [.ref q55, .ref q56])), (q45, .inr (5, [.ref q51, .ref q52])), (q26, .inr (8, [.ref q45, .ref q46, .ref q47, .ref q48, .int 0, .int 4, .int 0])), (q24, .inr (8, [.ref q34, .ref q35, .ref q36, .ref q37, w31, w32, w33])), (q21, .inl (g.2 3, 10, .inr (.inr (.inr (.inr f22))))), (q17, .inr (10, [.ref q21, .int 0, .int 0])), (q1, .inr (11, [.ref q17, w7, w8, w9, w10, w11, w12, w13, w14, w15, w16]))])) (QI g [(q3, .inl (g.2 1, 1, .inr (.inl f73))), (q37, .inl (g.2 0, 20, .inl f72)), (q48, .inl (g.2 0, 20, .inl f72)), (q36, .inl (g.2 0, 60, .inl f57)), (q47, .inl (g.2 0, 60, .inl f57)), (q70, .inl (g.2 0, 10, .inl f71)), (q64, .inl (g.2 0, 10, .inl f71)), (q69, .inl (g.2 0, 10, .inl f57)), (q63, .inl (g.2 0, 10, .inl f57)), (q35, .inr (9, [.ref q69, .ref q70, w67, w68])), (q46, .inr (9, [.ref q63, .ref q64, .int 1, .int 0])), (q56, .inl (g.2 0, 40, .inl f58)), (q52, .inl (g.2 0, 40, .inl f58)), (q55, .inl (g.2 0, 384, .inl f57)), (q51, .inl (g.2 0, 384, .inl f57)), (q34, .inr (5, [.ref q55, .ref q56])), (q45, .inr (5, [.ref q51, .ref q52])), (q26, .inr (8, [.ref q45, .ref q46, .ref q47, .ref q48, .int 0, .int 4, .int 0])), (q24, .inr (8, [.ref q34, .ref q35, .ref q36, .ref q37, w31, w32, w33])), (q21, .inl (g.2 3, 10, .inr (.inr (.inr (.inr f22))))), (q17, .inr (10, [.ref q21, .int 0, .int 0])), (q1, .inr (11, [.ref q17, w7, w8, w9, w10, w11, w12, w13, w14, w15, w16]))] sz 0 (fun _ => [(q3, .inl (g.2 1, 1, .inr (.inl (vp_updL f73 0 0))))])) 0 0 (va_A [(q3, .inl (g.2 1, 1, .inr (.inl f73))), (q37, .inl (g.2 0, 20, .inl f72)), (q48, .inl (g.2 0, 20, .inl f72)), (q36, .inl (g.2 0, 60, .inl f57)), (q47, .inl (g.2 0, 60, .inl f57)), (q70, .inl (g.2 0, 10, .inl f71)), (q64, .inl (g.2 0, 10, .inl f71)), (q69, .inl (g.2 0, 10, .inl f57)), (q63, .inl (g.2 0, 10, .inl f57)), (q35, .inr (9, [.ref q69, .ref q70, w67, w68])), (q46, .inr (9, [.ref q63, .ref q64, .int 1, .int 0])), (q56, .inl (g.2 0, 40, .inl f58)), (q52, .inl (g.2 0, 40, .inl f58)), (q55, .inl (g.2 0, 384, .inl f57)), (q51, .inl (g.2 0, 384, .inl f57)), (q34, .inr (5, [.ref q55, .ref q56])), (q45, .inr (5, [.ref q51, .ref q52])), (q26, .inr (8, [.ref q45, .ref q46, .ref q47, .ref q48, .int 0, .int 4, .int 0])), (q24, .inr (8, [.ref q34, .ref q35, .ref q36, .ref q37, w31, w32, w33])), (q21, .inl (g.2 3, 10, .inr (.inr (.inr (.inr f22))))), (q17, .inr (10, [.ref q21, .int 0, .int 0])), (q1, .inr (11, [.ref q17, w7, w8, w9, w10, w11, w12, w13, w14, w15, w16]))] sz) := by
  refine ofH (by decide) (Nat.le_of_ble_eq_true rfl) rfl ?_
  intro p e s m args below meth c A ls hAe hsz hx hb hml hr hlocks hin hown hE hP hD hA hS hl htb hz
  have hown : s.vm.findClass RL = some m.cls := hown
  refine lv_aload_n hx hb dL_setSwing_0 rfl (lv_at hl 2 rfl) ?_
  refine lv_iconst (v := 0) hx hb dL_setSwing_1 (by decide) ?_
  refine lv_aload_n hx hb dL_setSwing_2 rfl (lv_at hl 0 rfl) ?_
  refine lv_iload_n hx hb dL_setSwing_3 rfl (lv_at hl 1 rfl) ?_
  refine g_i (wr := [(q3, .inl (g.2 1, 1, .inr (.inl f73)))]) (rV (rest := [.int 0, .ref q3]) hx hb hml hown hE hP hD 21 rfl rfl (c1766_X9_setSwing l g q1 q17 q21 q24 q26 q34 q35 q36 q37 q45 q46 q47 q48 q51 q52 q55 q56 q63 q64 q69 q70 x2 w7 w8 w9 w10 w11 w12 w13 w14 w15 w16 w31 w32 w33 w67 w68 f22 f57 f58 f71 f72 (hf23) (hf25) h4 h5 s.heap.size) (kV_X9_setSwing hE (e955 hE) rfl rfl ⟨(Nat.le_of_ble_eq_true rfl), (Nat.le_of_ble_eq_true rfl)⟩) [1, 2, 3, 4, 5, 6, 7, 8, 9, 10, 11, 12, 13, 14, 15, 16, 17, 18, 19, 20, 21] rfl (by decide) rfl hl.1 rfl (lv_room (Nat.le_of_ble_eq_true rfl)) dL_setSwing_4 ⟨(Nat.le_of_ble_eq_true rfl), (Nat.le_of_ble_eq_true rfl)⟩) hP hD hS hA [1, 2, 3, 4, 5, 6, 7, 8, 9, 10, 11, 12, 13, 14, 15, 16, 17, 18, 19, 20, 21] [0] rfl rfl (by decide) (by decide) (fun u1 H locs hP hD hS => ?_)
  have hP : va_P g.1 vwCl [(q3, .inl (g.2 1, 1, .inr (.inl f73))), (q21, .inl (g.2 3, 10, .inr (.inr (.inr (.inr f22))))), (q26, .inr (8, [.ref q45, .ref q46, .ref q47, .ref q48, .int 0, .int 4, .int 0])), (q24, .inr (8, [.ref q34, .ref q35, .ref q36, .ref q37, .int 0, .int 4, .int 0])), (q34, .inr (5, [.ref q55, .ref q56])), (q45, .inr (5, [.ref q51, .ref q52])), (q55, .inl (g.2 0, 384, .inl f57)), (q51, .inl (g.2 0, 384, .inl f57)), (q56, .inl (g.2 0, 40, .inl f58)), (q52, .inl (g.2 0, 40, .inl f58)), (q35, .inr (9, [.ref q69, .ref q70, .int 1, .int x2])), (q46, .inr (9, [.ref q63, .ref q64, .int 1, .int 0])), (q69, .inl (g.2 0, 10, .inl f57)), (q63, .inl (g.2 0, 10, .inl f57)), (q70, .inl (g.2 0, 10, .inl f71)), (q64, .inl (g.2 0, 10, .inl f71)), (q36, .inl (g.2 0, 60, .inl f57)), (q47, .inl (g.2 0, 60, .inl f57)), (q37, .inl (g.2 0, 20, .inl f72)), (q48, .inl (g.2 0, 20, .inl f72)), (q17, .inr (10, [.ref q21, .int 1, .int 1])), (q1, .inr (11, [.ref q17, w7, w8, w9, w10, w11, w12, w13, .int 0, .int 0, w16]))] H := hP
  have hD : va_D A [(q3, .inl (g.2 1, 1, .inr (.inl f73))), (q21, .inl (g.2 3, 10, .inr (.inr (.inr (.inr f22))))), (q26, .inr (8, [.ref q45, .ref q46, .ref q47, .ref q48, .int 0, .int 4, .int 0])), (q24, .inr (8, [.ref q34, .ref q35, .ref q36, .ref q37, .int 0, .int 4, .int 0])), (q34, .inr (5, [.ref q55, .ref q56])), (q45, .inr (5, [.ref q51, .ref q52])), (q55, .inl (g.2 0, 384, .inl f57)), (q51, .inl (g.2 0, 384, .inl f57)), (q56, .inl (g.2 0, 40, .inl f58)), (q52, .inl (g.2 0, 40, .inl f58)), (q35, .inr (9, [.ref q69, .ref q70, .int 1, .int x2])), (q46, .inr (9, [.ref q63, .ref q64, .int 1, .int 0])), (q69, .inl (g.2 0, 10, .inl f57)), (q63, .inl (g.2 0, 10, .inl f57)), (q70, .inl (g.2 0, 10, .inl f71)), (q64, .inl (g.2 0, 10, .inl f71)), (q36, .inl (g.2 0, 60, .inl f57)), (q47, .inl (g.2 0, 60, .inl f57)), (q37, .inl (g.2 0, 20, .inl f72)), (q48, .inl (g.2 0, 20, .inl f72)), (q17, .inr (10, [.ref q21, .int 1, .int 1])), (q1, .inr (11, [.ref q17, w7, w8, w9, w10, w11, w12, w13, .int 0, .int 0, w16]))] := hD
  refine lv_i2l (v := 0) hx hb dL_setSwing_7 (by decide) ?_
  refine x_last (ws' := [(q3, .inl (g.2 1, 1, .inr (.inl (vp_updL f73 0 0)))), (q21, .inl (g.2 3, 10, .inr (.inr (.inr (.inr f22))))), (q26, .inr (8, [.ref q45, .ref q46, .ref q47, .ref q48, .int 0, .int 4, .int 0])), (q24, .inr (8, [.ref q34, .ref q35, .ref q36, .ref q37, .int 0, .int 4, .int 0])), (q34, .inr (5, [.ref q55, .ref q56])), (q45, .inr (5, [.ref q51, .ref q52])), (q55, .inl (g.2 0, 384, .inl f57)), (q51, .inl (g.2 0, 384, .inl f57)), (q56, .inl (g.2 0, 40, .inl f58)), (q52, .inl (g.2 0, 40, .inl f58)), (q35, .inr (9, [.ref q69, .ref q70, .int 1, .int x2])), (q46, .inr (9, [.ref q63, .ref q64, .int 1, .int 0])), (q69, .inl (g.2 0, 10, .inl f57)), (q63, .inl (g.2 0, 10, .inl f57)), (q70, .inl (g.2 0, 10, .inl f71)), (q64, .inl (g.2 0, 10, .inl f71)), (q36, .inl (g.2 0, 60, .inl f57)), (q47, .inl (g.2 0, 60, .inl f57)), (q37, .inl (g.2 0, 20, .inl f72)), (q48, .inl (g.2 0, 20, .inl f72)), (q17, .inr (10, [.ref q21, .int 1, .int 1])), (q1, .inr (11, [.ref q17, w7, w8, w9, w10, w11, w12, w13, .int 0, .int 0, w16]))]) hx hb hE hP hD hS 0 rfl 0 (x_in (by decide)) (by decide) dL_setSwing_8 rfl (fun H locs hP hD hS => ?_)
  refine lv_goto (tgt := 15) hx hb dL_setSwing_9 (by decide) ?_
  refine lv_iconst (v := 0) hx hb dL_setSwing_15 (by decide) ?_
  exact x_zret hx hb hr rfl rfl hlocks hP hD hS hAe hsz (Nat.le_of_ble_eq_true rfl) (Nat.le_of_ble_eq_true rfl) (fun _ => 0) [0] (by decide) rfl dL_setSwing_16

set_option maxHeartbeats 4000000 in
set_option maxRecDepth 100000 in
theorem c1768_X10_in (l : Launch) (g : gG) (x1 : Int32) (h2 : (0 : Int32) ≤ x1) (h3 : x1 ≤ 50) (sz : Nat) : Met l yX10_in [Cond.code yX10_in cX10_in 3 (some .boolean)] ({ frames := 0, cells := 0, slots := 0, locals := 0 } : Room) (va_Pc [.int x1, .int 0, .int 50] (PX g sz [])) (QI g [] sz 1 (fun _ => [])) 0 0 (va_A [] sz) := by
  refine ofN (by decide) (Nat.le_of_ble_eq_true rfl) rfl ?_
  intro p e s m args below meth c A ls hAe hsz hx hb hml hr hlocks hin hown hE hP hD hA hS hl
  have hown : s.vm.findClass RX10 = some m.cls := hown
  refine lv_iload_n hx hb dX10_in_0 rfl (lv_at hl 0 rfl) ?_
  refine lv_iload_n hx hb dX10_in_1 rfl (lv_at hl 1 rfl) ?_
  refine lv_icmp_lt (tgt := 14) hx hb dX10_in_2 (by decide) (fun h => absurd h (i_nlt h2)) (fun _ => ?_)
  refine lv_iload_n hx hb dX10_in_5 rfl (lv_at hl 0 rfl) ?_
  refine lv_iload_n hx hb dX10_in_6 rfl (lv_at hl 2 rfl) ?_
  refine lv_icmp_gt (tgt := 14) hx hb dX10_in_7 (by decide) (fun h => absurd h (i_nlt h3)) (fun _ => ?_)
  refine lv_iconst (v := 1) hx hb dX10_in_10 (by decide) ?_
  refine lv_goto (tgt := 15) hx hb dX10_in_11 (by decide) ?_
  exact x_zret hx hb hr rfl rfl hlocks hP hD hS hAe hsz (Nat.le_of_ble_eq_true rfl) (Nat.le_of_ble_eq_true rfl) (fun _ => 0) [] (by decide) rfl dX10_in_15

set_option maxHeartbeats 4000000 in
set_option maxRecDepth 100000 in
theorem c1769_X10_sets (l : Launch) (g : gG) (q1 q42 q43 q44 : Nat) (x2 : Int32) (w6 w8 w11 w12 w13 w14 w15 w16 w17 w18 w19 w20 w21 w22 w23 w24 w25 w26 w27 w28 w29 w30 w31 w32 w33 w34 w35 w36 w37 w38 w39 w40 w41 : Value) (f45 : Nat → Int32) (f46 : Nat → Int32) (hf47 : f45 494 = 0) (h3 : (0 : Int32) ≤ x2) (h4 : x2 ≤ 50) (sz : Nat) : Met l yX10_sets [Cond.code yX10_sets cX10_sets 7 (some .int)] ({ frames := 2, cells := 0, slots := 0, locals := 41 } : Room) (va_Pc [.ref q1, .int 494, .int x2, .int 0, .int 50, .int 1] (PX g sz [(q44, .inl (g.2 0, 3976, .inl f46)), (q43, .inl (g.2 0, 497, .inl f46)), (q42, .inl (g.2 0, 497, .inl f45)), (q1, .inr (12, [.ref q42, w6, .ref q43, w8, .ref q44, .int 0, w11, w12, w13, w14, w15, w16, w17, w18, w19, w20, w21, w22, w23, w24, w25, w26, w27, w28, w29, w30, w31, w32, w33, w34, w35, w36, w37, w38, w39, w40, w41]))])) (QI g [(q44, .inl (g.2 0, 3976, .inl f46)), (q43, .inl (g.2 0, 497, .inl f46)), (q42, .inl (g.2 0, 497, .inl f45)), (q1, .inr (12, [.ref q42, w6, .ref q43, w8, .ref q44, .int 0, w11, w12, w13, w14, w15, w16, w17, w18, w19, w20, w21, w22, w23, w24, w25, w26, w27, w28, w29, w30, w31, w32, w33, w34, w35, w36, w37, w38, w39, w40, w41]))] sz 0 (fun _ => [(q42, .inl (g.2 0, 497, .inl (upd f45 494 x2))), (q44, .inl (g.2 0, 3976, .inl (cpF 497 (cpF 497 f45 f46) f46))), (q43, .inl (g.2 0, 497, .inl (cpF 497 f45 f46))), (q1, .inr (12, [.ref q42, w6, .ref q43, w8, .ref q44, .int 1, .int 0, w12, w13, w14, w15, w16, w17, w18, w19, w20, w21, w22, w23, w24, w25, w26, w27, w28, w29, w30, w31, w32, w33, w34, w35, w36, w37, w38, w39, w40, w41]))])) 0 0 (va_A [(q44, .inl (g.2 0, 3976, .inl f46)), (q43, .inl (g.2 0, 497, .inl f46)), (q42, .inl (g.2 0, 497, .inl f45)), (q1, .inr (12, [.ref q42, w6, .ref q43, w8, .ref q44, .int 0, w11, w12, w13, w14, w15, w16, w17, w18, w19, w20, w21, w22, w23, w24, w25, w26, w27, w28, w29, w30, w31, w32, w33, w34, w35, w36, w37, w38, w39, w40, w41]))] sz) := by
  refine ofN (by decide) (Nat.le_of_ble_eq_true rfl) rfl ?_
  intro p e s m args below meth c A ls hAe hsz hx hb hml hr hlocks hin hown hE hP hD hA hS hl
  have hown : s.vm.findClass RX10 = some m.cls := hown
  refine lv_aload_n hx hb dX10_sets_0 rfl (lv_at hl 0 rfl) ?_
  refine lv_iload_n hx hb dX10_sets_1 rfl (lv_at hl 2 rfl) ?_
  refine lv_iload_n hx hb dX10_sets_2 rfl (lv_at hl 3 rfl) ?_
  refine lv_iload hx hb dX10_sets_3 (lv_at hl 4 rfl) ?_
  refine g0_i (rS (rest := [.ref q1]) hx hb hml hown hE hP hD (c1768_X10_in l g x2 h3 h4 s.heap.size) (kS_X10_in hE (e1431 hE) rfl rfl ⟨(Nat.le_of_ble_eq_true rfl), (Nat.le_of_ble_eq_true rfl)⟩) [] rfl (by decide) rfl hl.1 rfl (lv_room (Nat.le_of_ble_eq_true rfl)) dX10_sets_5 ⟨(Nat.le_of_ble_eq_true rfl), (Nat.le_of_ble_eq_true rfl)⟩) hP hD hS hA (fun u9 H locs hP hS => ?_)
  refine lv_if_eq (tgt := 15) hx hb dX10_sets_8 (by decide) (fun h => absurd h (by decide)) (fun _ => ?_)
  refine lv_iconst (v := 0) hx hb dX10_sets_11 (by decide) ?_
  refine lv_goto (tgt := 17) hx hb dX10_sets_12 (by decide) ?_
  refine pf_RX10_86 (ws' := [(q44, .inl (g.2 0, 3976, .inl f46)), (q43, .inl (g.2 0, 497, .inl f46)), (q42, .inl (g.2 0, 497, .inl f45)), (q1, .inr (12, [.ref q42, w6, .ref q43, w8, .ref q44, .int 0, .int 0, w12, w13, w14, w15, w16, w17, w18, w19, w20, w21, w22, w23, w24, w25, w26, w27, w28, w29, w30, w31, w32, w33, w34, w35, w36, w37, w38, w39, w40, w41]))]) hx hb hown hE hP hD hS 3 rfl rfl rfl (Nat.le_of_ble_eq_true rfl) dX10_sets_17 rfl (fun H locs hP hD hS => ?_)
  refine lv_aload_n hx hb dX10_sets_20 rfl (lv_at hl 0 rfl) ?_
  refine gf_RX10_86 hx hb hown hE hP 3 rfl rfl dX10_sets_21 ?_
  refine lv_if_le (tgt := 29) hx hb dX10_sets_24 (by decide) (fun _ => ?_) (fun h => absurd (by decide) h)
  refine lv_aload_n hx hb dX10_sets_29 rfl (lv_at hl 0 rfl) ?_
  refine g_v (wr := []) (rV (rest := []) hx hb hml hown hE hP hD 3 rfl rfl (c1714_X10_keepNow l g q1 q42 q43 q44 w6 w8 (.int 0) w12 w13 w14 w15 w16 w17 w18 w19 w20 w21 w22 w23 w24 w25 w26 w27 w28 w29 w30 w31 w32 w33 w34 w35 w36 w37 w38 w39 w40 w41 f45 f46 H.size) (kV_X10_keepNow hE (e1494 hE) rfl rfl ⟨(Nat.le_of_ble_eq_true rfl), (Nat.le_of_ble_eq_true rfl)⟩) [0, 1, 2, 3] rfl (by decide) rfl hl.1 rfl (lv_room (Nat.le_of_ble_eq_true rfl)) dX10_sets_30 ⟨(Nat.le_of_ble_eq_true rfl), (Nat.le_of_ble_eq_true rfl)⟩) hP hD hS hA [0, 1, 2, 3] [] rfl rfl (by decide) (by decide) (fun u2 H locs hP hD hS => ?_)
  have hP : va_P g.1 vwCl [(q42, .inl (g.2 0, 497, .inl f45)), (q44, .inl (g.2 0, 3976, .inl (cpF 497 (cpF 497 f45 f46) f46))), (q43, .inl (g.2 0, 497, .inl (cpF 497 f45 f46))), (q1, .inr (12, [.ref q42, w6, .ref q43, w8, .ref q44, .int 1, .int 0, w12, w13, w14, w15, w16, w17, w18, w19, w20, w21, w22, w23, w24, w25, w26, w27, w28, w29, w30, w31, w32, w33, w34, w35, w36, w37, w38, w39, w40, w41]))] H := hP
  have hD : va_D A [(q42, .inl (g.2 0, 497, .inl f45)), (q44, .inl (g.2 0, 3976, .inl (cpF 497 (cpF 497 f45 f46) f46))), (q43, .inl (g.2 0, 497, .inl (cpF 497 f45 f46))), (q1, .inr (12, [.ref q42, w6, .ref q43, w8, .ref q44, .int 1, .int 0, w12, w13, w14, w15, w16, w17, w18, w19, w20, w21, w22, w23, w24, w25, w26, w27, w28, w29, w30, w31, w32, w33, w34, w35, w36, w37, w38, w39, w40, w41]))] := hD
  refine lv_aload_n hx hb dX10_sets_33 rfl (lv_at hl 0 rfl) ?_
  refine gf_RX10_9 hx hb hown hE hP 3 rfl rfl dX10_sets_34 ?_
  refine lv_iload_n hx hb dX10_sets_37 rfl (lv_at hl 1 rfl) ?_
  refine x_iald (v := 0) hx hb hE hP 0 rfl 494 (x_in (by decide)) (by decide) hf47 dX10_sets_38 ?_
  refine lv_istore (lv' := [(6, .int 0), (0, .ref q1), (1, .int 494), (2, .int x2), (3, .int 0), (4, .int 50), (5, .int 1)]) hx hb dX10_sets_39 hl (by decide) rfl (fun ls hl => ?_)
  refine lv_aload_n hx hb dX10_sets_41 rfl (lv_at hl 1 rfl) ?_
  refine gf_RX10_9 hx hb hown hE hP 3 rfl rfl dX10_sets_42 ?_
  refine lv_iload_n hx hb dX10_sets_45 rfl (lv_at hl 2 rfl) ?_
  refine lv_iload_n hx hb dX10_sets_46 rfl (lv_at hl 3 rfl) ?_
  refine x_iast (ws' := [(q42, .inl (g.2 0, 497, .inl (upd f45 494 x2))), (q44, .inl (g.2 0, 3976, .inl (cpF 497 (cpF 497 f45 f46) f46))), (q43, .inl (g.2 0, 497, .inl (cpF 497 f45 f46))), (q1, .inr (12, [.ref q42, w6, .ref q43, w8, .ref q44, .int 1, .int 0, w12, w13, w14, w15, w16, w17, w18, w19, w20, w21, w22, w23, w24, w25, w26, w27, w28, w29, w30, w31, w32, w33, w34, w35, w36, w37, w38, w39, w40, w41]))]) hx hb hE hP hD hS 0 rfl 494 (x_in (by decide)) (by decide) dX10_sets_47 rfl (fun H locs hP hD hS => ?_)
  refine lv_iload hx hb dX10_sets_48 (lv_at hl 0 rfl) ?_
  exact x_zret hx hb hr rfl rfl hlocks hP hD hS hAe hsz (Nat.le_of_ble_eq_true rfl) (Nat.le_of_ble_eq_true rfl) (fun _ => 0) [0, 1, 2, 3] (by decide) rfl dX10_sets_50

set_option maxHeartbeats 4000000 in
set_option maxRecDepth 100000 in
theorem c1770_X10_setSwing (l : Launch) (g : gG) (q1 q42 q43 q44 : Nat) (x2 : Int32) (w4 w6 w9 w10 w11 w12 w13 w14 w15 w16 w17 w18 w19 w20 w21 w22 w23 w24 w25 w26 w27 w28 w29 w30 w31 w32 w33 w34 w35 w36 w37 w38 w39 : Value) (f45 : Nat → Int32) (f46 : Nat → Int32) (hf47 : f45 494 = 0) (h40 : (0 : Int32) ≤ x2) (h41 : x2 ≤ 50) (sz : Nat) : Met l yX10_setSwing [Cond.code yX10_setSwing cX10_setSwing 2 (some .int)] ({ frames := 3, cells := 0, slots := 0, locals := 67 } : Room) (va_Pc [.ref q1, .int x2] (PX g sz [(q44, .inl (g.2 0, 3976, .inl f46)), (q43, .inl (g.2 0, 497, .inl f46)), (q42, .inl (g.2 0, 497, .inl f45)), (q1, .inr (12, [.ref q42, w4, .ref q43, w6, .ref q44, .int 0, w9, w10, w11, w12, w13, w14, w15, w16, w17, w18, w19, w20, w21, w22, w23, w24, w25, w26, w27, w28, w29, w30, w31, w32, w33, w34, w35, w36, w37, w38, w39]))])) (QI g [(q44, .inl (g.2 0, 3976, .inl f46)), (q43, .inl (g.2 0, 497, .inl f46)), (q42, .inl (g.2 0, 497, .inl f45)), (q1, .inr (12, [.ref q42, w4, .ref q43, w6, .ref q44, .int 0, w9, w10, w11, w12, w13, w14, w15, w16, w17, w18, w19, w20, w21, w22, w23, w24, w25, w26, w27, w28, w29, w30, w31, w32, w33, w34, w35, w36, w37, w38, w39]))] sz 0 (fun _ => [(q1, .inr (12, [.ref q42, w4, .ref q43, w6, .ref q44, .int 1, .int 0, w10, w11, w12, w13, w14, w15, w16, w17, w18, w19, w20, w21, w22, w23, w24, w25, w26, w27, w28, w29, w30, w31, w32, w33, w34, w35, w36, w37, w38, w39]))])) 0 0 (va_A [(q44, .inl (g.2 0, 3976, .inl f46)), (q43, .inl (g.2 0, 497, .inl f46)), (q42, .inl (g.2 0, 497, .inl f45)), (q1, .inr (12, [.ref q42, w4, .ref q43, w6, .ref q44, .int 0, w9, w10, w11, w12, w13, w14, w15, w16, w17, w18, w19, w20, w21, w22, w23, w24, w25, w26, w27, w28, w29, w30, w31, w32, w33, w34, w35, w36, w37, w38, w39]))] sz) := by
  refine ofN (by decide) (Nat.le_of_ble_eq_true rfl) rfl ?_
  intro p e s m args below meth c A ls hAe hsz hx hb hml hr hlocks hin hown hE hP hD hA hS hl
  have hown : s.vm.findClass RX10 = some m.cls := hown
  refine lv_aload_n hx hb dX10_setSwing_0 rfl (lv_at hl 0 rfl) ?_
  refine lv_sipush (v := 494) hx hb dX10_setSwing_1 (by decide) ?_
  refine lv_iload_n hx hb dX10_setSwing_4 rfl (lv_at hl 1 rfl) ?_
  refine lv_iconst (v := 0) hx hb dX10_setSwing_5 (by decide) ?_
  refine lv_bipush (v := 50) hx hb dX10_setSwing_6 (by decide) ?_
  refine lv_iconst (v := 1) hx hb dX10_setSwing_8 (by decide) ?_
  refine g_i (wr := []) (rV (rest := []) hx hb hml hown hE hP hD 3 rfl rfl (c1769_X10_sets l g q1 q42 q43 q44 x2 w4 w6 w9 w10 w11 w12 w13 w14 w15 w16 w17 w18 w19 w20 w21 w22 w23 w24 w25 w26 w27 w28 w29 w30 w31 w32 w33 w34 w35 w36 w37 w38 w39 f45 f46 (hf47) h40 h41 s.heap.size) (kV_X10_sets hE (e1628 hE) rfl rfl ⟨(Nat.le_of_ble_eq_true rfl), (Nat.le_of_ble_eq_true rfl)⟩) [0, 1, 2, 3] rfl (by decide) rfl hl.1 rfl (lv_room (Nat.le_of_ble_eq_true rfl)) dX10_setSwing_9 ⟨(Nat.le_of_ble_eq_true rfl), (Nat.le_of_ble_eq_true rfl)⟩) hP hD hS hA [0, 1, 2, 3] [] rfl rfl (by decide) (by decide) (fun u1 H locs hP hD hS => ?_)
  have hP : va_P g.1 vwCl [(q42, .inl (g.2 0, 497, .inl (upd f45 494 x2))), (q44, .inl (g.2 0, 3976, .inl (cpF 497 (cpF 497 f45 f46) f46))), (q43, .inl (g.2 0, 497, .inl (cpF 497 f45 f46))), (q1, .inr (12, [.ref q42, w4, .ref q43, w6, .ref q44, .int 1, .int 0, w10, w11, w12, w13, w14, w15, w16, w17, w18, w19, w20, w21, w22, w23, w24, w25, w26, w27, w28, w29, w30, w31, w32, w33, w34, w35, w36, w37, w38, w39]))] H := hP
  have hD : va_D A [(q42, .inl (g.2 0, 497, .inl (upd f45 494 x2))), (q44, .inl (g.2 0, 3976, .inl (cpF 497 (cpF 497 f45 f46) f46))), (q43, .inl (g.2 0, 497, .inl (cpF 497 f45 f46))), (q1, .inr (12, [.ref q42, w4, .ref q43, w6, .ref q44, .int 1, .int 0, w10, w11, w12, w13, w14, w15, w16, w17, w18, w19, w20, w21, w22, w23, w24, w25, w26, w27, w28, w29, w30, w31, w32, w33, w34, w35, w36, w37, w38, w39]))] := hD
  exact x_zret hx hb hr rfl rfl hlocks hP hD hS hAe hsz (Nat.le_of_ble_eq_true rfl) (Nat.le_of_ble_eq_true rfl) (fun _ => 0) [3] (by decide) rfl dX10_setSwing_12

set_option maxHeartbeats 4000000 in
set_option maxRecDepth 100000 in
theorem c1771_X9_requireRange (l : Launch) (g : gG) (hlx : l.stackTraces = false) (x1 : Int32) (h2 : (0 : Int32) ≤ x1) (h3 : (50 : Int32) < x1) (sz : Nat) : vx_Met l yX9_requireRange [Cond.code yX9_requireRange cX9_requireRange 3 none] ({ frames := 6, cells := 1, slots := 6, locals := 100 } : Room) (va_Pc [.int x1, .int 0, .int 50] (PZ g sz [])) NV (XW g [] sz "java/lang/IllegalArgumentException" []) 1 6 (va_A [] sz) := by
  refine ofX (by decide) (Nat.le_of_ble_eq_true rfl) rfl ?_
  intro p e s m args below meth c A ls hAe hsz hx hb hml hr hlocks hin hown hE hP hD hA hS hl hex hz
  have hown : s.vm.findClass RX9 = some m.cls := hown
  refine lv_iload_n hx hb dX9_requireRange_0 rfl (lv_at hl 0 rfl) ?_
  refine lv_iload_n hx hb dX9_requireRange_1 rfl (lv_at hl 1 rfl) ?_
  refine lv_icmp_lt (tgt := 10) hx hb dX9_requireRange_2 (by decide) (fun h => absurd h (i_nlt h2)) (fun _ => ?_)
  refine lv_iload_n hx hb dX9_requireRange_5 rfl (lv_at hl 0 rfl) ?_
  refine lv_iload_n hx hb dX9_requireRange_6 rfl (lv_at hl 2 rfl) ?_
  refine lv_icmp_le (tgt := 21) hx hb dX9_requireRange_7 (by decide) (fun h => absurd h (i_nle h3)) (fun _ => ?_)
  exact x_throwW (text := "a number is out of range") (names := ["java/lang/RuntimeException", "java/lang/Exception"]) hx hb hlx hown hE (by decide) (by decide) (e639 hE) (e20 hE) (by decide +kernel) (th_215 hE) tg_215_211 hz (by rw [hml]; exact hl.1) dX9_requireRange_10 dX9_requireRange_13 dX9_requireRange_14 dX9_requireRange_17 dX9_requireRange_20 hex (Nat.le_of_ble_eq_true rfl) (Nat.le_of_ble_eq_true rfl) (Nat.le_of_ble_eq_true rfl) (Nat.le_of_ble_eq_true rfl) hlocks hP hD hS hAe hsz (Nat.le_of_ble_eq_true rfl) (Nat.le_of_ble_eq_true rfl) [] (by decide) rfl

set_option maxHeartbeats 4000000 in
set_option maxRecDepth 100000 in
theorem c1772_X9_setSwing (l : Launch) (g : gG) (hlx : l.stackTraces = false) (q1 : Nat) (x2 : Int32) (h3 : (0 : Int32) ≤ x2) (h4 : (50 : Int32) < x2) (sz : Nat) : vx_Met l yX9_setSwing [Cond.code yX9_setSwing cX9_setSwing 4 (some .int)] ({ frames := 7, cells := 1, slots := 6, locals := 122 } : Room) (va_Pc [.ref q1, .int x2] (PZ g sz [])) NI (XW g [] sz "java/lang/IllegalArgumentException" []) 1 6 (va_A [] sz) := by
  refine ofX (by decide) (Nat.le_of_ble_eq_true rfl) rfl ?_
  intro p e s m args below meth c A ls hAe hsz hx hb hml hr hlocks hin hown hE hP hD hA hS hl hex hz
  have hown : s.vm.findClass RX9 = some m.cls := hown
  refine lv_iload_n hx hb dX9_setSwing_0 rfl (lv_at hl 1 rfl) ?_
  refine lv_iconst (v := 0) hx hb dX9_setSwing_1 (by decide) ?_
  refine lv_bipush (v := 50) hx hb dX9_setSwing_2 (by decide) ?_
  refine gx_v (wr := []) (rSx (rest := []) hx hb hml hown hE hP hD hS hA hz (c1771_X9_requireRange l g hlx x2 h3 h4 s.heap.size) (kS_X9_requireRange hE (e636 hE) rfl rfl ⟨(Nat.le_of_ble_eq_true rfl), (Nat.le_of_ble_eq_true rfl)⟩) [] rfl (by decide) rfl hl.1 rfl (lv_room (Nat.le_of_ble_eq_true rfl)) dX9_setSwing_4 ⟨(Nat.le_of_ble_eq_true rfl), (Nat.le_of_ble_eq_true rfl)⟩) hP hD hS hA [] [] rfl rfl (by decide) (by decide) (fun ce9 q9 H locs hP hD hS hq1 hq2 hq3 => ?_)
  exact x_out hex hlocks hq1 hq2 hq3 hP hD hS hAe hsz (Nat.le_of_ble_eq_true rfl) (Nat.le_of_ble_eq_true rfl) [] (by decide) rfl

set_option maxHeartbeats 4000000 in
set_option maxRecDepth 100000 in
theorem c1773_L_setSwing (l : Launch) (g : gG) (hlx : l.stackTraces = false) (q1 q3 q16 q20 q23 q25 q33 q34 q35 q36 q44 q45 q46 q47 q50 q51 q54 q55 q62 q63 q68 q69 : Nat) (x2 : Int32) (w6 w7 w8 w9 w10 w11 w12 w13 w14 w15 w30 w31 w32 w66 w67 : Value) (f21 : Nat → Option Nat) (f56 : Nat → Int32) (f57 : Nat → Int32) (f70 : Nat → Int32) (f71 : Nat → Int32) (hf22 : f21 1 = some q23) (hf24 : f21 0 = some q25) (h4 : (0 : Int32) ≤ x2) (h72 : (50 : Int32) < x2) (sz : Nat) : Met l yL_setSwing [Cond.codeWith yL_setSwing cL_setSwing 4 (some .int) [(0, 9, 12, 15)]] ({ frames := 8, cells := 1, slots := 6, locals := 145 } : Room) (va_Pc [.ref q1, .int x2, .ref q3] (PZ g sz [(q36, .inl (g.2 0, 20, .inl f71)), (q47, .inl (g.2 0, 20, .inl f71)), (q35, .inl (g.2 0, 60, .inl f56)), (q46, .inl (g.2 0, 60, .inl f56)), (q69, .inl (g.2 0, 10, .inl f70)), (q63, .inl (g.2 0, 10, .inl f70)), (q68, .inl (g.2 0, 10, .inl f56)), (q62, .inl (g.2 0, 10, .inl f56)), (q34, .inr (9, [.ref q68, .ref q69, w66, w67])), (q45, .inr (9, [.ref q62, .ref q63, .int 1, .int 0])), (q55, .inl (g.2 0, 40, .inl f57)), (q51, .inl (g.2 0, 40, .inl f57)), (q54, .inl (g.2 0, 384, .inl f56)), (q50, .inl (g.2 0, 384, .inl f56)), (q33, .inr (5, [.ref q54, .ref q55])), (q44, .inr (5, [.ref q50, .ref q51])), (q25, .inr (8, [.ref q44, .ref q45, .ref q46, .ref q47, .int 0, .int 4, .int 0])), (q23, .inr (8, [.ref q33, .ref q34, .ref q35, .ref q36, w30, w31, w32])), (q20, .inl (g.2 3, 10, .inr (.inr (.inr (.inr f21))))), (q16, .inr (10, [.ref q20, .int 0, .int 0])), (q1, .inr (11, [.ref q16, w6, w7, w8, w9, w10, w11, w12, w13, w14, w15]))])) (QI g [(q36, .inl (g.2 0, 20, .inl f71)), (q47, .inl (g.2 0, 20, .inl f71)), (q35, .inl (g.2 0, 60, .inl f56)), (q46, .inl (g.2 0, 60, .inl f56)), (q69, .inl (g.2 0, 10, .inl f70)), (q63, .inl (g.2 0, 10, .inl f70)), (q68, .inl (g.2 0, 10, .inl f56)), (q62, .inl (g.2 0, 10, .inl f56)), (q34, .inr (9, [.ref q68, .ref q69, w66, w67])), (q45, .inr (9, [.ref q62, .ref q63, .int 1, .int 0])), (q55, .inl (g.2 0, 40, .inl f57)), (q51, .inl (g.2 0, 40, .inl f57)), (q54, .inl (g.2 0, 384, .inl f56)), (q50, .inl (g.2 0, 384, .inl f56)), (q33, .inr (5, [.ref q54, .ref q55])), (q44, .inr (5, [.ref q50, .ref q51])), (q25, .inr (8, [.ref q44, .ref q45, .ref q46, .ref q47, .int 0, .int 4, .int 0])), (q23, .inr (8, [.ref q33, .ref q34, .ref q35, .ref q36, w30, w31, w32])), (q20, .inl (g.2 3, 10, .inr (.inr (.inr (.inr f21))))), (q16, .inr (10, [.ref q20, .int 0, .int 0])), (q1, .inr (11, [.ref q16, w6, w7, w8, w9, w10, w11, w12, w13, w14, w15]))] sz 1 (fun _ => [])) 1 6 (va_A [(q36, .inl (g.2 0, 20, .inl f71)), (q47, .inl (g.2 0, 20, .inl f71)), (q35, .inl (g.2 0, 60, .inl f56)), (q46, .inl (g.2 0, 60, .inl f56)), (q69, .inl (g.2 0, 10, .inl f70)), (q63, .inl (g.2 0, 10, .inl f70)), (q68, .inl (g.2 0, 10, .inl f56)), (q62, .inl (g.2 0, 10, .inl f56)), (q34, .inr (9, [.ref q68, .ref q69, w66, w67])), (q45, .inr (9, [.ref q62, .ref q63, .int 1, .int 0])), (q55, .inl (g.2 0, 40, .inl f57)), (q51, .inl (g.2 0, 40, .inl f57)), (q54, .inl (g.2 0, 384, .inl f56)), (q50, .inl (g.2 0, 384, .inl f56)), (q33, .inr (5, [.ref q54, .ref q55])), (q44, .inr (5, [.ref q50, .ref q51])), (q25, .inr (8, [.ref q44, .ref q45, .ref q46, .ref q47, .int 0, .int 4, .int 0])), (q23, .inr (8, [.ref q33, .ref q34, .ref q35, .ref q36, w30, w31, w32])), (q20, .inl (g.2 3, 10, .inr (.inr (.inr (.inr f21))))), (q16, .inr (10, [.ref q20, .int 0, .int 0])), (q1, .inr (11, [.ref q16, w6, w7, w8, w9, w10, w11, w12, w13, w14, w15]))] sz) := by
  refine ofH (by decide) (Nat.le_of_ble_eq_true rfl) rfl ?_
  intro p e s m args below meth c A ls hAe hsz hx hb hml hr hlocks hin hown hE hP hD hA hS hl htb hz
  have hown : s.vm.findClass RL = some m.cls := hown
  refine lv_aload_n hx hb dL_setSwing_0 rfl (lv_at hl 2 rfl) ?_
  refine lv_iconst (v := 0) hx hb dL_setSwing_1 (by decide) ?_
  refine lv_aload_n hx hb dL_setSwing_2 rfl (lv_at hl 0 rfl) ?_
  refine lv_iload_n hx hb dL_setSwing_3 rfl (lv_at hl 1 rfl) ?_
  refine gx_i (wr := [(q36, .inl (g.2 0, 20, .inl f71)), (q47, .inl (g.2 0, 20, .inl f71)), (q35, .inl (g.2 0, 60, .inl f56)), (q46, .inl (g.2 0, 60, .inl f56)), (q69, .inl (g.2 0, 10, .inl f70)), (q63, .inl (g.2 0, 10, .inl f70)), (q68, .inl (g.2 0, 10, .inl f56)), (q62, .inl (g.2 0, 10, .inl f56)), (q34, .inr (9, [.ref q68, .ref q69, w66, w67])), (q45, .inr (9, [.ref q62, .ref q63, .int 1, .int 0])), (q55, .inl (g.2 0, 40, .inl f57)), (q51, .inl (g.2 0, 40, .inl f57)), (q54, .inl (g.2 0, 384, .inl f56)), (q50, .inl (g.2 0, 384, .inl f56)), (q33, .inr (5, [.ref q54, .ref q55])), (q44, .inr (5, [.ref q50, .ref q51])), (q25, .inr (8, [.ref q44, .ref q45, .ref q46, .ref q47, .int 0, .int 4, .int 0])), (q23, .inr (8, [.ref q33, .ref q34, .ref q35, .ref q36, w30, w31, w32])), (q20, .inl (g.2 3, 10, .inr (.inr (.inr (.inr f21))))), (q16, .inr (10, [.ref q20, .int 0, .int 0])), (q1, .inr (11, [.ref q16, w6, w7, w8, w9, w10, w11, w12, w13, w14, w15]))]) (rVx (rest := [.int 0, .ref q3]) hx hb hml hown hE hP hD hS hA hz 20 rfl rfl (c1772_X9_setSwing l g hlx q1 x2 h4 h72 s.heap.size) (kV_X9_setSwing hE (e955 hE) rfl rfl ⟨(Nat.le_of_ble_eq_true rfl), (Nat.le_of_ble_eq_true rfl)⟩) [] rfl (by decide) rfl hl.1 rfl (lv_room (Nat.le_of_ble_eq_true rfl)) dL_setSwing_4 ⟨(Nat.le_of_ble_eq_true rfl), (Nat.le_of_ble_eq_true rfl)⟩) hP hD hS hA [] [0, 1, 2, 3, 4, 5, 6, 7, 8, 9, 10, 11, 12, 13, 14, 15, 16, 17, 18, 19, 20] rfl rfl (by decide) (by decide) (fun ce9 q9 H locs hP hD hS hq1 hq2 hq3 => ?_)
  have hP : va_P g.1 vwCl [(q36, .inl (g.2 0, 20, .inl f71)), (q47, .inl (g.2 0, 20, .inl f71)), (q35, .inl (g.2 0, 60, .inl f56)), (q46, .inl (g.2 0, 60, .inl f56)), (q69, .inl (g.2 0, 10, .inl f70)), (q63, .inl (g.2 0, 10, .inl f70)), (q68, .inl (g.2 0, 10, .inl f56)), (q62, .inl (g.2 0, 10, .inl f56)), (q34, .inr (9, [.ref q68, .ref q69, w66, w67])), (q45, .inr (9, [.ref q62, .ref q63, .int 1, .int 0])), (q55, .inl (g.2 0, 40, .inl f57)), (q51, .inl (g.2 0, 40, .inl f57)), (q54, .inl (g.2 0, 384, .inl f56)), (q50, .inl (g.2 0, 384, .inl f56)), (q33, .inr (5, [.ref q54, .ref q55])), (q44, .inr (5, [.ref q50, .ref q51])), (q25, .inr (8, [.ref q44, .ref q45, .ref q46, .ref q47, .int 0, .int 4, .int 0])), (q23, .inr (8, [.ref q33, .ref q34, .ref q35, .ref q36, w30, w31, w32])), (q20, .inl (g.2 3, 10, .inr (.inr (.inr (.inr f21))))), (q16, .inr (10, [.ref q20, .int 0, .int 0])), (q1, .inr (11, [.ref q16, w6, w7, w8, w9, w10, w11, w12, w13, w14, w15]))] H := hP
  have hD : va_D A [(q36, .inl (g.2 0, 20, .inl f71)), (q47, .inl (g.2 0, 20, .inl f71)), (q35, .inl (g.2 0, 60, .inl f56)), (q46, .inl (g.2 0, 60, .inl f56)), (q69, .inl (g.2 0, 10, .inl f70)), (q63, .inl (g.2 0, 10, .inl f70)), (q68, .inl (g.2 0, 10, .inl f56)), (q62, .inl (g.2 0, 10, .inl f56)), (q34, .inr (9, [.ref q68, .ref q69, w66, w67])), (q45, .inr (9, [.ref q62, .ref q63, .int 1, .int 0])), (q55, .inl (g.2 0, 40, .inl f57)), (q51, .inl (g.2 0, 40, .inl f57)), (q54, .inl (g.2 0, 384, .inl f56)), (q50, .inl (g.2 0, 384, .inl f56)), (q33, .inr (5, [.ref q54, .ref q55])), (q44, .inr (5, [.ref q50, .ref q51])), (q25, .inr (8, [.ref q44, .ref q45, .ref q46, .ref q47, .int 0, .int 4, .int 0])), (q23, .inr (8, [.ref q33, .ref q34, .ref q35, .ref q36, w30, w31, w32])), (q20, .inl (g.2 3, 10, .inr (.inr (.inr (.inr f21))))), (q16, .inr (10, [.ref q20, .int 0, .int 0])), (q1, .inr (11, [.ref q16, w6, w7, w8, w9, w10, w11, w12, w13, w14, w15]))] := hD
  refine x_catch (name := "java/lang/IllegalArgumentException") (hh := [(0, 9, 12, 15)]) (tgt := 12) hown htb [] ⟨0, 9, 12, 15⟩ [] rfl (fun _ h => nomatch h) rfl (by decide) (e611 hE) (e641 hE) hq1 hq2 hq3 rfl ?_
  refine lv_astore_n (lv' := [(3, .ref q9), (0, .ref q1), (1, .int x2), (2, .ref q3)]) hx hb dL_setSwing_12 rfl hl (by decide) rfl (fun ls hl => ?_)
  refine lv_iconst (v := 1) hx hb dL_setSwing_13 (by decide) ?_
  exact x_zret hx hb hr rfl rfl hlocks hP hD hS hAe hsz (Nat.le_of_ble_eq_true rfl) (Nat.le_of_ble_eq_true rfl) (fun _ => 0) [] (by decide) rfl dL_setSwing_14

set_option maxHeartbeats 4000000 in
set_option maxRecDepth 100000 in
theorem c1774_X10_in (l : Launch) (g : gG) (x1 : Int32) (h2 : (0 : Int32) ≤ x1) (h3 : (50 : Int32) < x1) (sz : Nat) : Met l yX10_in [Cond.code yX10_in cX10_in 3 (some .boolean)] ({ frames := 0, cells := 0, slots := 0, locals := 0 } : Room) (va_Pc [.int x1, .int 0, .int 50] (PX g sz [])) (QI g [] sz 0 (fun _ => [])) 0 0 (va_A [] sz) := by
  refine ofN (by decide) (Nat.le_of_ble_eq_true rfl) rfl ?_
  intro p e s m args below meth c A ls hAe hsz hx hb hml hr hlocks hin hown hE hP hD hA hS hl
  have hown : s.vm.findClass RX10 = some m.cls := hown
  refine lv_iload_n hx hb dX10_in_0 rfl (lv_at hl 0 rfl) ?_
  refine lv_iload_n hx hb dX10_in_1 rfl (lv_at hl 1 rfl) ?_
  refine lv_icmp_lt (tgt := 14) hx hb dX10_in_2 (by decide) (fun h => absurd h (i_nlt h2)) (fun _ => ?_)
  refine lv_iload_n hx hb dX10_in_5 rfl (lv_at hl 0 rfl) ?_
  refine lv_iload_n hx hb dX10_in_6 rfl (lv_at hl 2 rfl) ?_
  refine lv_icmp_gt (tgt := 14) hx hb dX10_in_7 (by decide) (fun _ => ?_) (fun h => absurd h3 h)
  refine lv_iconst (v := 0) hx hb dX10_in_14 (by decide) ?_
  exact x_zret hx hb hr rfl rfl hlocks hP hD hS hAe hsz (Nat.le_of_ble_eq_true rfl) (Nat.le_of_ble_eq_true rfl) (fun _ => 0) [] (by decide) rfl dX10_in_15

set_option maxHeartbeats 4000000 in
set_option maxRecDepth 100000 in
theorem c1775_X10_sets (l : Launch) (g : gG) (q1 : Nat) (x2 : Int32) (w5 w6 w7 w8 w9 w10 w11 w12 w13 w14 w15 w16 w17 w18 w19 w20 w21 w22 w23 w24 w25 w26 w27 w28 w29 w30 w31 w32 w33 w34 w35 w36 w37 w38 w39 w40 w41 : Value) (h3 : (0 : Int32) ≤ x2) (h4 : (50 : Int32) < x2) (sz : Nat) : Met l yX10_sets [Cond.code yX10_sets cX10_sets 7 (some .int)] ({ frames := 1, cells := 0, slots := 0, locals := 22 } : Room) (va_Pc [.ref q1, .int 494, .int x2, .int 0, .int 50, .int 1] (PX g sz [(q1, .inr (12, [w5, w6, w7, w8, w9, w10, w11, w12, w13, w14, w15, w16, w17, w18, w19, w20, w21, w22, w23, w24, w25, w26, w27, w28, w29, w30, w31, w32, w33, w34, w35, w36, w37, w38, w39, w40, w41]))])) (QI g [(q1, .inr (12, [w5, w6, w7, w8, w9, w10, w11, w12, w13, w14, w15, w16, w17, w18, w19, w20, w21, w22, w23, w24, w25, w26, w27, w28, w29, w30, w31, w32, w33, w34, w35, w36, w37, w38, w39, w40, w41]))] sz 0 (fun _ => [(q1, .inr (12, [w5, w6, w7, w8, w9, w10, .int 1, w12, w13, w14, w15, w16, w17, w18, w19, w20, w21, w22, w23, w24, w25, w26, w27, w28, w29, w30, w31, w32, w33, w34, w35, w36, w37, w38, w39, w40, w41]))])) 0 0 (va_A [(q1, .inr (12, [w5, w6, w7, w8, w9, w10, w11, w12, w13, w14, w15, w16, w17, w18, w19, w20, w21, w22, w23, w24, w25, w26, w27, w28, w29, w30, w31, w32, w33, w34, w35, w36, w37, w38, w39, w40, w41]))] sz) := by
  refine ofN (by decide) (Nat.le_of_ble_eq_true rfl) rfl ?_
  intro p e s m args below meth c A ls hAe hsz hx hb hml hr hlocks hin hown hE hP hD hA hS hl
  have hown : s.vm.findClass RX10 = some m.cls := hown
  refine lv_aload_n hx hb dX10_sets_0 rfl (lv_at hl 0 rfl) ?_
  refine lv_iload_n hx hb dX10_sets_1 rfl (lv_at hl 2 rfl) ?_
  refine lv_iload_n hx hb dX10_sets_2 rfl (lv_at hl 3 rfl) ?_
  refine lv_iload hx hb dX10_sets_3 (lv_at hl 4 rfl) ?_
  refine g0_i (rS (rest := [.ref q1]) hx hb hml hown hE hP hD (c1774_X10_in l g x2 h3 h4 s.heap.size) (kS_X10_in hE (e1431 hE) rfl rfl ⟨(Nat.le_of_ble_eq_true rfl), (Nat.le_of_ble_eq_true rfl)⟩) [] rfl (by decide) rfl hl.1 rfl (lv_room (Nat.le_of_ble_eq_true rfl)) dX10_sets_5 ⟨(Nat.le_of_ble_eq_true rfl), (Nat.le_of_ble_eq_true rfl)⟩) hP hD hS hA (fun u9 H locs hP hS => ?_)
  refine lv_if_eq (tgt := 15) hx hb dX10_sets_8 (by decide) (fun _ => ?_) (fun h => absurd (by decide) h)
  refine lv_iload hx hb dX10_sets_15 (lv_at hl 5 rfl) ?_
  refine pf_RX10_86 (ws' := [(q1, .inr (12, [w5, w6, w7, w8, w9, w10, .int 1, w12, w13, w14, w15, w16, w17, w18, w19, w20, w21, w22, w23, w24, w25, w26, w27, w28, w29, w30, w31, w32, w33, w34, w35, w36, w37, w38, w39, w40, w41]))]) hx hb hown hE hP hD hS 0 rfl rfl rfl (Nat.le_of_ble_eq_true rfl) dX10_sets_17 rfl (fun H locs hP hD hS => ?_)
  refine lv_aload_n hx hb dX10_sets_20 rfl (lv_at hl 0 rfl) ?_
  refine gf_RX10_86 hx hb hown hE hP 0 rfl rfl dX10_sets_21 ?_
  refine lv_if_le (tgt := 29) hx hb dX10_sets_24 (by decide) (fun h => absurd h (by decide)) (fun _ => ?_)
  refine lv_iconst (v := 0) hx hb dX10_sets_27 (by decide) ?_
  exact x_zret hx hb hr rfl rfl hlocks hP hD hS hAe hsz (Nat.le_of_ble_eq_true rfl) (Nat.le_of_ble_eq_true rfl) (fun _ => 0) [0] (by decide) rfl dX10_sets_28

set_option maxHeartbeats 4000000 in
set_option maxRecDepth 100000 in
theorem c1776_X10_setSwing (l : Launch) (g : gG) (q1 q41 q42 q43 : Nat) (x2 : Int32) (w4 w6 w9 w10 w11 w12 w13 w14 w15 w16 w17 w18 w19 w20 w21 w22 w23 w24 w25 w26 w27 w28 w29 w30 w31 w32 w33 w34 w35 w36 w37 w38 w39 : Value) (f44 : Nat → Int32) (f46 : Nat → Int32) (hf45 : f44 494 = 0) (h40 : (0 : Int32) ≤ x2) (h47 : (50 : Int32) < x2) (sz : Nat) : Met l yX10_setSwing [Cond.code yX10_setSwing cX10_setSwing 2 (some .int)] ({ frames := 2, cells := 0, slots := 0, locals := 48 } : Room) (va_Pc [.ref q1, .int x2] (PX g sz [(q43, .inl (g.2 0, 3976, .inl f46)), (q42, .inl (g.2 0, 497, .inl f46)), (q41, .inl (g.2 0, 497, .inl f44)), (q1, .inr (12, [.ref q41, w4, .ref q42, w6, .ref q43, .int 0, w9, w10, w11, w12, w13, w14, w15, w16, w17, w18, w19, w20, w21, w22, w23, w24, w25, w26, w27, w28, w29, w30, w31, w32, w33, w34, w35, w36, w37, w38, w39]))])) (QI g [(q43, .inl (g.2 0, 3976, .inl f46)), (q42, .inl (g.2 0, 497, .inl f46)), (q41, .inl (g.2 0, 497, .inl f44)), (q1, .inr (12, [.ref q41, w4, .ref q42, w6, .ref q43, .int 0, w9, w10, w11, w12, w13, w14, w15, w16, w17, w18, w19, w20, w21, w22, w23, w24, w25, w26, w27, w28, w29, w30, w31, w32, w33, w34, w35, w36, w37, w38, w39]))] sz 0 (fun _ => [(q1, .inr (12, [.ref q41, w4, .ref q42, w6, .ref q43, .int 0, .int 1, w10, w11, w12, w13, w14, w15, w16, w17, w18, w19, w20, w21, w22, w23, w24, w25, w26, w27, w28, w29, w30, w31, w32, w33, w34, w35, w36, w37, w38, w39]))])) 0 0 (va_A [(q43, .inl (g.2 0, 3976, .inl f46)), (q42, .inl (g.2 0, 497, .inl f46)), (q41, .inl (g.2 0, 497, .inl f44)), (q1, .inr (12, [.ref q41, w4, .ref q42, w6, .ref q43, .int 0, w9, w10, w11, w12, w13, w14, w15, w16, w17, w18, w19, w20, w21, w22, w23, w24, w25, w26, w27, w28, w29, w30, w31, w32, w33, w34, w35, w36, w37, w38, w39]))] sz) := by
  refine ofN (by decide) (Nat.le_of_ble_eq_true rfl) rfl ?_
  intro p e s m args below meth c A ls hAe hsz hx hb hml hr hlocks hin hown hE hP hD hA hS hl
  have hown : s.vm.findClass RX10 = some m.cls := hown
  refine lv_aload_n hx hb dX10_setSwing_0 rfl (lv_at hl 0 rfl) ?_
  refine lv_sipush (v := 494) hx hb dX10_setSwing_1 (by decide) ?_
  refine lv_iload_n hx hb dX10_setSwing_4 rfl (lv_at hl 1 rfl) ?_
  refine lv_iconst (v := 0) hx hb dX10_setSwing_5 (by decide) ?_
  refine lv_bipush (v := 50) hx hb dX10_setSwing_6 (by decide) ?_
  refine lv_iconst (v := 1) hx hb dX10_setSwing_8 (by decide) ?_
  refine g_i (wr := [(q43, .inl (g.2 0, 3976, .inl f46)), (q42, .inl (g.2 0, 497, .inl f46)), (q41, .inl (g.2 0, 497, .inl f44))]) (rV (rest := []) hx hb hml hown hE hP hD 3 rfl rfl (c1775_X10_sets l g q1 x2 (.ref q41) w4 (.ref q42) w6 (.ref q43) (.int 0) w9 w10 w11 w12 w13 w14 w15 w16 w17 w18 w19 w20 w21 w22 w23 w24 w25 w26 w27 w28 w29 w30 w31 w32 w33 w34 w35 w36 w37 w38 w39 h40 h47 s.heap.size) (kV_X10_sets hE (e1628 hE) rfl rfl ⟨(Nat.le_of_ble_eq_true rfl), (Nat.le_of_ble_eq_true rfl)⟩) [3] rfl (by decide) rfl hl.1 rfl (lv_room (Nat.le_of_ble_eq_true rfl)) dX10_setSwing_9 ⟨(Nat.le_of_ble_eq_true rfl), (Nat.le_of_ble_eq_true rfl)⟩) hP hD hS hA [3] [0, 1, 2] rfl rfl (by decide) (by decide) (fun u1 H locs hP hD hS => ?_)
  have hP : va_P g.1 vwCl [(q43, .inl (g.2 0, 3976, .inl f46)), (q42, .inl (g.2 0, 497, .inl f46)), (q41, .inl (g.2 0, 497, .inl f44)), (q1, .inr (12, [.ref q41, w4, .ref q42, w6, .ref q43, .int 0, .int 1, w10, w11, w12, w13, w14, w15, w16, w17, w18, w19, w20, w21, w22, w23, w24, w25, w26, w27, w28, w29, w30, w31, w32, w33, w34, w35, w36, w37, w38, w39]))] H := hP
  have hD : va_D A [(q43, .inl (g.2 0, 3976, .inl f46)), (q42, .inl (g.2 0, 497, .inl f46)), (q41, .inl (g.2 0, 497, .inl f44)), (q1, .inr (12, [.ref q41, w4, .ref q42, w6, .ref q43, .int 0, .int 1, w10, w11, w12, w13, w14, w15, w16, w17, w18, w19, w20, w21, w22, w23, w24, w25, w26, w27, w28, w29, w30, w31, w32, w33, w34, w35, w36, w37, w38, w39]))] := hD
  exact x_zret hx hb hr rfl rfl hlocks hP hD hS hAe hsz (Nat.le_of_ble_eq_true rfl) (Nat.le_of_ble_eq_true rfl) (fun _ => 0) [3] (by decide) rfl dX10_setSwing_12

set_option maxHeartbeats 4000000 in
set_option maxRecDepth 100000 in
theorem c1777_X9_timeOf (l : Launch) (g : gG) (hlx : l.stackTraces = false) (q1 : Nat) (x2 : Int32) (h3 : x2 < 0) (sz : Nat) : vx_Met l yX9_timeOf [Cond.code yX9_timeOf cX9_timeOf 4 (some .int)] ({ frames := 7, cells := 1, slots := 6, locals := 122 } : Room) (va_Pc [.ref q1, .int x2, .int 0] (PZ g sz [])) NI (XW g [] sz "java/lang/IllegalArgumentException" []) 1 6 (va_A [] sz) := by
  refine ofX (by decide) (Nat.le_of_ble_eq_true rfl) rfl ?_
  intro p e s m args below meth c A ls hAe hsz hx hb hml hr hlocks hin hown hE hP hD hA hS hl hex hz
  have hown : s.vm.findClass RX9 = some m.cls := hown
  refine lv_iload_n hx hb dX9_timeOf_0 rfl (lv_at hl 1 rfl) ?_
  refine lv_iconst (v := 0) hx hb dX9_timeOf_1 (by decide) ?_
  refine lv_sipush (v := 30000) hx hb dX9_timeOf_2 (by decide) ?_
  refine gx_v (wr := []) (rSx (rest := []) hx hb hml hown hE hP hD hS hA hz (c639_X9_requireRange l g hlx x2 30000 h3 s.heap.size) (kS_X9_requireRange hE (e636 hE) rfl rfl ⟨(Nat.le_of_ble_eq_true rfl), (Nat.le_of_ble_eq_true rfl)⟩) [] rfl (by decide) rfl hl.1 rfl (lv_room (Nat.le_of_ble_eq_true rfl)) dX9_timeOf_5 ⟨(Nat.le_of_ble_eq_true rfl), (Nat.le_of_ble_eq_true rfl)⟩) hP hD hS hA [] [] rfl rfl (by decide) (by decide) (fun ce9 q9 H locs hP hD hS hq1 hq2 hq3 => ?_)
  exact x_out hex hlocks hq1 hq2 hq3 hP hD hS hAe hsz (Nat.le_of_ble_eq_true rfl) (Nat.le_of_ble_eq_true rfl) [] (by decide) rfl

set_option maxHeartbeats 4000000 in
set_option maxRecDepth 100000 in
theorem c1778_L_timeOf (l : Launch) (g : gG) (hlx : l.stackTraces = false) (q1 q3 : Nat) (x2 : Int32) (w5 w6 w7 w8 w9 w10 w11 w12 w13 w14 w15 : Value) (h4 : x2 < 0) (sz : Nat) : Met l yL_timeOf [Cond.codeWith yL_timeOf cL_timeOf 5 (some .int) [(0, 10, 13, 15)]] ({ frames := 8, cells := 1, slots := 6, locals := 145 } : Room) (va_Pc [.ref q1, .int x2, .int 0, .ref q3] (PZ g sz [(q1, .inr (11, [w5, w6, w7, w8, w9, w10, w11, w12, w13, w14, w15]))])) (QI g [(q1, .inr (11, [w5, w6, w7, w8, w9, w10, w11, w12, w13, w14, w15]))] sz 1 (fun _ => [])) 1 6 (va_A [(q1, .inr (11, [w5, w6, w7, w8, w9, w10, w11, w12, w13, w14, w15]))] sz) := by
  refine ofH (by decide) (Nat.le_of_ble_eq_true rfl) rfl ?_
  intro p e s m args below meth c A ls hAe hsz hx hb hml hr hlocks hin hown hE hP hD hA hS hl htb hz
  have hown : s.vm.findClass RL = some m.cls := hown
  refine lv_aload_n hx hb dL_timeOf_0 rfl (lv_at hl 3 rfl) ?_
  refine lv_iconst (v := 0) hx hb dL_timeOf_1 (by decide) ?_
  refine lv_aload_n hx hb dL_timeOf_2 rfl (lv_at hl 0 rfl) ?_
  refine lv_iload_n hx hb dL_timeOf_3 rfl (lv_at hl 1 rfl) ?_
  refine lv_iload_n hx hb dL_timeOf_4 rfl (lv_at hl 2 rfl) ?_
  refine gx_i (wr := [(q1, .inr (11, [w5, w6, w7, w8, w9, w10, w11, w12, w13, w14, w15]))]) (rVx (rest := [.int 0, .ref q3]) hx hb hml hown hE hP hD hS hA hz 0 rfl rfl (c1777_X9_timeOf l g hlx q1 x2 h4 s.heap.size) (kV_X9_timeOf hE (e962 hE) rfl rfl ⟨(Nat.le_of_ble_eq_true rfl), (Nat.le_of_ble_eq_true rfl)⟩) [] rfl (by decide) rfl hl.1 rfl (lv_room (Nat.le_of_ble_eq_true rfl)) dL_timeOf_5 ⟨(Nat.le_of_ble_eq_true rfl), (Nat.le_of_ble_eq_true rfl)⟩) hP hD hS hA [] [0] rfl rfl (by decide) (by decide) (fun ce9 q9 H locs hP hD hS hq1 hq2 hq3 => ?_)
  have hP : va_P g.1 vwCl [(q1, .inr (11, [w5, w6, w7, w8, w9, w10, w11, w12, w13, w14, w15]))] H := hP
  have hD : va_D A [(q1, .inr (11, [w5, w6, w7, w8, w9, w10, w11, w12, w13, w14, w15]))] := hD
  refine x_catch (name := "java/lang/IllegalArgumentException") (hh := [(0, 10, 13, 15)]) (tgt := 13) hown htb [] ⟨0, 10, 13, 15⟩ [] rfl (fun _ h => nomatch h) rfl (by decide) (e611 hE) (e641 hE) hq1 hq2 hq3 rfl ?_
  refine lv_astore (lv' := [(4, .ref q9), (0, .ref q1), (1, .int x2), (2, .int 0), (3, .ref q3)]) hx hb dL_timeOf_13 hl (by decide) rfl (fun ls hl => ?_)
  refine lv_iconst (v := 1) hx hb dL_timeOf_15 (by decide) ?_
  exact x_zret hx hb hr rfl rfl hlocks hP hD hS hAe hsz (Nat.le_of_ble_eq_true rfl) (Nat.le_of_ble_eq_true rfl) (fun _ => 0) [] (by decide) rfl dL_timeOf_16

set_option maxHeartbeats 4000000 in
set_option maxRecDepth 100000 in
theorem c1779_X10_timeOf (l : Launch) (g : gG) (q1 : Nat) (x2 : Int32) (w4 w5 w6 w7 w8 w9 w10 w11 w12 w13 w14 w15 w16 w17 w18 w19 w20 w21 w22 w23 w24 w25 w26 w27 w28 w29 w30 w31 w32 w33 w34 w35 w36 w37 w38 w39 w40 : Value) (h3 : x2 < 0) (sz : Nat) : Met l yX10_timeOf [Cond.code yX10_timeOf cX10_timeOf 3 (some .int)] ({ frames := 1, cells := 0, slots := 0, locals := 22 } : Room) (va_Pc [.ref q1, .int x2, .int 0] (PX g sz [(q1, .inr (12, [w4, w5, w6, w7, w8, w9, w10, w11, w12, w13, w14, w15, w16, w17, w18, w19, w20, w21, w22, w23, w24, w25, w26, w27, w28, w29, w30, w31, w32, w33, w34, w35, w36, w37, w38, w39, w40]))])) (QI g [(q1, .inr (12, [w4, w5, w6, w7, w8, w9, w10, w11, w12, w13, w14, w15, w16, w17, w18, w19, w20, w21, w22, w23, w24, w25, w26, w27, w28, w29, w30, w31, w32, w33, w34, w35, w36, w37, w38, w39, w40]))] sz 0 (fun _ => [(q1, .inr (12, [w4, w5, w6, w7, w8, w9, .int 1, w11, w12, w13, w14, w15, w16, w17, w18, w19, w20, w21, w22, w23, w24, w25, w26, w27, w28, w29, w30, w31, w32, w33, w34, w35, w36, w37, w38, w39, w40]))])) 0 0 (va_A [(q1, .inr (12, [w4, w5, w6, w7, w8, w9, w10, w11, w12, w13, w14, w15, w16, w17, w18, w19, w20, w21, w22, w23, w24, w25, w26, w27, w28, w29, w30, w31, w32, w33, w34, w35, w36, w37, w38, w39, w40]))] sz) := by
  refine ofN (by decide) (Nat.le_of_ble_eq_true rfl) rfl ?_
  intro p e s m args below meth c A ls hAe hsz hx hb hml hr hlocks hin hown hE hP hD hA hS hl
  have hown : s.vm.findClass RX10 = some m.cls := hown
  refine lv_aload_n hx hb dX10_timeOf_0 rfl (lv_at hl 0 rfl) ?_
  refine lv_iload_n hx hb dX10_timeOf_1 rfl (lv_at hl 1 rfl) ?_
  refine lv_iconst (v := 0) hx hb dX10_timeOf_2 (by decide) ?_
  refine lv_sipush (v := 30000) hx hb dX10_timeOf_3 (by decide) ?_
  refine g0_i (rS (rest := [.ref q1]) hx hb hml hown hE hP hD (c642_X10_in l g x2 30000 h3 s.heap.size) (kS_X10_in hE (e1431 hE) rfl rfl ⟨(Nat.le_of_ble_eq_true rfl), (Nat.le_of_ble_eq_true rfl)⟩) [] rfl (by decide) rfl hl.1 rfl (lv_room (Nat.le_of_ble_eq_true rfl)) dX10_timeOf_6 ⟨(Nat.le_of_ble_eq_true rfl), (Nat.le_of_ble_eq_true rfl)⟩) hP hD hS hA (fun u9 H locs hP hS => ?_)
  refine lv_if_eq (tgt := 16) hx hb dX10_timeOf_9 (by decide) (fun _ => ?_) (fun h => absurd (by decide) h)
  refine lv_iconst (v := 1) hx hb dX10_timeOf_16 (by decide) ?_
  refine pf_RX10_86 (ws' := [(q1, .inr (12, [w4, w5, w6, w7, w8, w9, .int 1, w11, w12, w13, w14, w15, w16, w17, w18, w19, w20, w21, w22, w23, w24, w25, w26, w27, w28, w29, w30, w31, w32, w33, w34, w35, w36, w37, w38, w39, w40]))]) hx hb hown hE hP hD hS 0 rfl rfl rfl (Nat.le_of_ble_eq_true rfl) dX10_timeOf_17 rfl (fun H locs hP hD hS => ?_)
  refine lv_aload_n hx hb dX10_timeOf_20 rfl (lv_at hl 0 rfl) ?_
  refine gf_RX10_86 hx hb hown hE hP 0 rfl rfl dX10_timeOf_21 ?_
  refine lv_if_le (tgt := 31) hx hb dX10_timeOf_24 (by decide) (fun h => absurd h (by decide)) (fun _ => ?_)
  refine lv_iconst (v := 0) hx hb dX10_timeOf_27 (by decide) ?_
  refine lv_goto (tgt := 37) hx hb dX10_timeOf_28 (by decide) ?_
  exact x_zret hx hb hr rfl rfl hlocks hP hD hS hAe hsz (Nat.le_of_ble_eq_true rfl) (Nat.le_of_ble_eq_true rfl) (fun _ => 0) [0] (by decide) rfl dX10_timeOf_37

set_option maxHeartbeats 4000000 in
set_option maxRecDepth 100000 in
theorem c1780_X7_plainTime (l : Launch) (g : gG) (q1 q7 : Nat) (x2 : Int32) (w4 w6 : Value) (f8 : Nat → Int32) (hf9 : f8 0 = 0) (h10 : x2 ≤ 0) (sz : Nat) : Met l yX7_plainTime [Cond.code yX7_plainTime cX7_plainTime 6 (some .int)] ({ frames := 1, cells := 0, slots := 0, locals := 21 } : Room) (va_Pc [.ref q1, .int x2] (PX g sz [(q7, .inl (g.2 0, 10, .inl f8)), (q1, .inr (9, [.ref q7, w4, .int 1, w6]))])) (QI g [(q7, .inl (g.2 0, 10, .inl f8)), (q1, .inr (9, [.ref q7, w4, .int 1, w6]))] sz 0 (fun _ => [(q7, .inl (g.2 0, 10, .inl f8)), (q1, .inr (9, [.ref q7, w4, .int 1, w6]))])) 0 0 (va_A [(q7, .inl (g.2 0, 10, .inl f8)), (q1, .inr (9, [.ref q7, w4, .int 1, w6]))] sz) := by
  refine ofN (by decide) (Nat.le_of_ble_eq_true rfl) rfl ?_
  intro p e s m args below meth c A ls hAe hsz hx hb hml hr hlocks hin hown hE hP hD hA hS hl
  have hown : s.vm.findClass RX7 = some m.cls := hown
  refine lv_iconst (v := 0) hx hb dX7_plainTime_0 (by decide) ?_
  refine lv_istore_n (lv' := [(2, .int 0), (0, .ref q1), (1, .int x2)]) hx hb dX7_plainTime_1 rfl hl (by decide) rfl (fun ls hl => ?_)
  refine lv_iload_n hx hb dX7_plainTime_2 rfl (lv_at hl 2 rfl) ?_
  refine lv_istore_n (lv' := [(3, .int x2), (2, .int 0), (0, .ref q1), (1, .int x2)]) hx hb dX7_plainTime_3 rfl hl (by decide) rfl (fun ls hl => ?_)
  refine lv_aload_n hx hb dX7_plainTime_4 rfl (lv_at hl 2 rfl) ?_
  refine gf_RX7_18 hx hb hown hE hP 1 rfl rfl dX7_plainTime_5 ?_
  refine lv_iconst (v := 1) hx hb dX7_plainTime_8 (by decide) ?_
  refine x_isub (v := 0) hx hb dX7_plainTime_9 (by decide) ?_
  refine lv_istore (lv' := [(4, .int 0), (3, .int x2), (2, .int 0), (0, .ref q1), (1, .int x2)]) hx hb dX7_plainTime_10 hl (by decide) rfl (fun ls hl => ?_)
  refine lv_iload hx hb dX7_plainTime_12 (lv_at hl 0 rfl) ?_
  refine lv_if_lt (tgt := 54) hx hb dX7_plainTime_14 (by decide) (fun h => absurd h (by decide)) (fun _ => ?_)
  refine lv_aload_n hx hb dX7_plainTime_17 rfl (lv_at hl 3 rfl) ?_
  refine lv_iload hx hb dX7_plainTime_18 (lv_at hl 0 rfl) ?_
  refine g_i (wr := []) (rV (rest := []) hx hb hml hown hE hP hD 1 rfl rfl (c1707_X7_placeTick l g q1 q7 w4 (.int 1) w6 f8 (hf9) s.heap.size) (kV_X7_placeTick hE (e409 hE) rfl rfl ⟨(Nat.le_of_ble_eq_true rfl), (Nat.le_of_ble_eq_true rfl)⟩) [0, 1] rfl (by decide) rfl hl.1 rfl (lv_room (Nat.le_of_ble_eq_true rfl)) dX7_plainTime_20 ⟨(Nat.le_of_ble_eq_true rfl), (Nat.le_of_ble_eq_true rfl)⟩) hP hD hS hA [0, 1] [] rfl rfl (by decide) (by decide) (fun u1 H locs hP hD hS => ?_)
  have hP : va_P g.1 vwCl [(q7, .inl (g.2 0, 10, .inl f8)), (q1, .inr (9, [.ref q7, w4, .int 1, w6]))] H := hP
  have hD : va_D A [(q7, .inl (g.2 0, 10, .inl f8)), (q1, .inr (9, [.ref q7, w4, .int 1, w6]))] := hD
  refine lv_istore (lv' := [(5, .int 0), (4, .int 0), (3, .int x2), (2, .int 0), (0, .ref q1), (1, .int x2)]) hx hb dX7_plainTime_23 hl (by decide) rfl (fun ls hl => ?_)
  refine lv_iload hx hb dX7_plainTime_25 (lv_at hl 0 rfl) ?_
  refine lv_iload_n hx hb dX7_plainTime_27 rfl (lv_at hl 2 rfl) ?_
  refine lv_icmp_ge (tgt := 48) hx hb dX7_plainTime_28 (by decide) (fun _ => ?_) (fun h => absurd h10 h)
  refine lv_iinc (v := (-1)) (lv' := [(4, .int (-1)), (5, .int 0), (3, .int x2), (2, .int 0), (0, .ref q1), (1, .int x2)]) hx hb dX7_plainTime_48 hl (k := 1) rfl (by decide) (by decide) rfl (fun ls hl => ?_)
  refine lv_goto (tgt := 12) hx hb dX7_plainTime_51 (by decide) ?_
  refine lv_iload hx hb dX7_plainTime_12 (lv_at hl 0 rfl) ?_
  refine lv_if_lt (tgt := 54) hx hb dX7_plainTime_14 (by decide) (fun _ => ?_) (fun h => absurd (by decide) h)
  refine lv_iload_n hx hb dX7_plainTime_54 rfl (lv_at hl 3 rfl) ?_
  exact x_zret hx hb hr rfl rfl hlocks hP hD hS hAe hsz (Nat.le_of_ble_eq_true rfl) (Nat.le_of_ble_eq_true rfl) (fun _ => 0) [0, 1] (by decide) rfl dX7_plainTime_55

set_option maxHeartbeats 4000000 in
set_option maxRecDepth 100000 in
theorem c1781_X7_swungTime (l : Launch) (g : gG) (q1 q6 : Nat) (w3 w5 : Value) (f7 : Nat → Int32) (hf8 : f7 0 = 0) (sz : Nat) : Met l yX7_swungTime [Cond.code yX7_swungTime cX7_swungTime 3 (some .int)] ({ frames := 2, cells := 0, slots := 0, locals := 46 } : Room) (va_Pc [.ref q1, .int 0] (PX g sz [(q6, .inl (g.2 0, 10, .inl f7)), (q1, .inr (9, [.ref q6, w3, .int 1, w5]))])) (QI g [(q6, .inl (g.2 0, 10, .inl f7)), (q1, .inr (9, [.ref q6, w3, .int 1, w5]))] sz 0 (fun _ => [(q6, .inl (g.2 0, 10, .inl f7)), (q1, .inr (9, [.ref q6, w3, .int 1, w5]))])) 0 0 (va_A [(q6, .inl (g.2 0, 10, .inl f7)), (q1, .inr (9, [.ref q6, w3, .int 1, w5]))] sz) := by
  refine ofN (by decide) (Nat.le_of_ble_eq_true rfl) rfl ?_
  intro p e s m args below meth c A ls hAe hsz hx hb hml hr hlocks hin hown hE hP hD hA hS hl
  have hown : s.vm.findClass RX7 = some m.cls := hown
  refine lv_aload_n hx hb dX7_swungTime_0 rfl (lv_at hl 0 rfl) ?_
  refine lv_iload_n hx hb dX7_swungTime_1 rfl (lv_at hl 1 rfl) ?_
  refine g_i (wr := []) (rV (rest := []) hx hb hml hown hE hP hD 1 rfl rfl (c1780_X7_plainTime l g q1 q6 0 w3 w5 f7 (hf8) (by decide) s.heap.size) (kV_X7_plainTime hE (e405 hE) rfl rfl ⟨(Nat.le_of_ble_eq_true rfl), (Nat.le_of_ble_eq_true rfl)⟩) [0, 1] rfl (by decide) rfl hl.1 rfl (lv_room (Nat.le_of_ble_eq_true rfl)) dX7_swungTime_2 ⟨(Nat.le_of_ble_eq_true rfl), (Nat.le_of_ble_eq_true rfl)⟩) hP hD hS hA [0, 1] [] rfl rfl (by decide) (by decide) (fun u1 H locs hP hD hS => ?_)
  have hP : va_P g.1 vwCl [(q6, .inl (g.2 0, 10, .inl f7)), (q1, .inr (9, [.ref q6, w3, .int 1, w5]))] H := hP
  have hD : va_D A [(q6, .inl (g.2 0, 10, .inl f7)), (q1, .inr (9, [.ref q6, w3, .int 1, w5]))] := hD
  refine lv_istore_n (lv' := [(2, .int 0), (0, .ref q1), (1, .int 0)]) hx hb dX7_swungTime_5 rfl hl (by decide) rfl (fun ls hl => ?_)
  refine lv_iload_n hx hb dX7_swungTime_6 rfl (lv_at hl 2 rfl) ?_
  refine lv_iconst (v := 1) hx hb dX7_swungTime_7 (by decide) ?_
  refine x_iand (v := 0) hx hb dX7_swungTime_8 (by decide) ?_
  refine lv_iconst (v := 1) hx hb dX7_swungTime_9 (by decide) ?_
  refine lv_icmp_ne (tgt := 31) hx hb dX7_swungTime_10 (by decide) (fun _ => ?_) (fun h => absurd h (by decide))
  refine lv_iload_n hx hb dX7_swungTime_31 rfl (lv_at hl 0 rfl) ?_
  exact x_zret hx hb hr rfl rfl hlocks hP hD hS hAe hsz (Nat.le_of_ble_eq_true rfl) (Nat.le_of_ble_eq_true rfl) (fun _ => 0) [0, 1] (by decide) rfl dX7_swungTime_32

set_option maxHeartbeats 4000000 in
set_option maxRecDepth 100000 in
theorem c1782_X9_timeOf (l : Launch) (g : gG) (q1 q13 q17 q20 q28 q33 : Nat) (w3 w4 w5 w6 w7 w8 w9 w10 w11 w12 w16 w21 w23 w24 w25 w26 w27 w30 w32 : Value) (f18 : Nat → Option Nat) (f34 : Nat → Int32) (hf19 : f18 0 = some q20) (hf35 : f34 0 = 0) (sz : Nat) : Met l yX9_timeOf [Cond.code yX9_timeOf cX9_timeOf 4 (some .int)] ({ frames := 3, cells := 0, slots := 0, locals := 68 } : Room) (va_Pc [.ref q1, .int 0, .int 0] (PX g sz [(q33, .inl (g.2 0, 10, .inl f34)), (q28, .inr (9, [.ref q33, w30, .int 1, w32])), (q20, .inr (8, [w21, .ref q28, w23, w24, w25, w26, w27])), (q17, .inl (g.2 3, 10, .inr (.inr (.inr (.inr f18))))), (q13, .inr (10, [.ref q17, .int 0, w16])), (q1, .inr (11, [.ref q13, w3, w4, w5, w6, w7, w8, w9, w10, w11, w12]))])) (QI g [(q33, .inl (g.2 0, 10, .inl f34)), (q28, .inr (9, [.ref q33, w30, .int 1, w32])), (q20, .inr (8, [w21, .ref q28, w23, w24, w25, w26, w27])), (q17, .inl (g.2 3, 10, .inr (.inr (.inr (.inr f18))))), (q13, .inr (10, [.ref q17, .int 0, w16])), (q1, .inr (11, [.ref q13, w3, w4, w5, w6, w7, w8, w9, w10, w11, w12]))] sz 0 (fun _ => [(q20, .inr (8, [w21, .ref q28, w23, w24, w25, w26, w27])), (q1, .inr (11, [.ref q13, w3, w4, w5, w6, w7, w8, w9, w10, w11, w12])), (q17, .inl (g.2 3, 10, .inr (.inr (.inr (.inr f18))))), (q13, .inr (10, [.ref q17, .int 0, w16])), (q33, .inl (g.2 0, 10, .inl f34)), (q28, .inr (9, [.ref q33, w30, .int 1, w32]))])) 0 0 (va_A [(q33, .inl (g.2 0, 10, .inl f34)), (q28, .inr (9, [.ref q33, w30, .int 1, w32])), (q20, .inr (8, [w21, .ref q28, w23, w24, w25, w26, w27])), (q17, .inl (g.2 3, 10, .inr (.inr (.inr (.inr f18))))), (q13, .inr (10, [.ref q17, .int 0, w16])), (q1, .inr (11, [.ref q13, w3, w4, w5, w6, w7, w8, w9, w10, w11, w12]))] sz) := by
  refine ofN (by decide) (Nat.le_of_ble_eq_true rfl) rfl ?_
  intro p e s m args below meth c A ls hAe hsz hx hb hml hr hlocks hin hown hE hP hD hA hS hl
  have hown : s.vm.findClass RX9 = some m.cls := hown
  refine lv_iload_n hx hb dX9_timeOf_0 rfl (lv_at hl 1 rfl) ?_
  refine lv_iconst (v := 0) hx hb dX9_timeOf_1 (by decide) ?_
  refine lv_sipush (v := 30000) hx hb dX9_timeOf_2 (by decide) ?_
  refine g0_v (rS (rest := []) hx hb hml hown hE hP hD (c1699_X9_requireRange l g 0 (by decide) (by decide) s.heap.size) (kS_X9_requireRange hE (e636 hE) rfl rfl ⟨(Nat.le_of_ble_eq_true rfl), (Nat.le_of_ble_eq_true rfl)⟩) [] rfl (by decide) rfl hl.1 rfl (lv_room (Nat.le_of_ble_eq_true rfl)) dX9_timeOf_5 ⟨(Nat.le_of_ble_eq_true rfl), (Nat.le_of_ble_eq_true rfl)⟩) hP hD hS hA (fun u9 H locs hP hS => ?_)
  refine lv_aload_n hx hb dX9_timeOf_8 rfl (lv_at hl 0 rfl) ?_
  refine gf_RX9_12 hx hb hown hE hP 5 rfl rfl dX9_timeOf_9 ?_
  refine g_r (wr := [(q33, .inl (g.2 0, 10, .inl f34)), (q28, .inr (9, [.ref q33, w30, .int 1, w32])), (q20, .inr (8, [w21, .ref q28, w23, w24, w25, w26, w27])), (q1, .inr (11, [.ref q13, w3, w4, w5, w6, w7, w8, w9, w10, w11, w12]))]) (rV (rest := []) hx hb hml hown hE hP hD 4 rfl rfl (c71_X8_current l g q13 q17 q20 w16 f18 (hf19) H.size) (kV_X8_current hE (e290 hE) rfl rfl ⟨(Nat.le_of_ble_eq_true rfl), (Nat.le_of_ble_eq_true rfl)⟩) [3, 4] rfl (by decide) rfl hl.1 rfl (lv_room (Nat.le_of_ble_eq_true rfl)) dX9_timeOf_12 ⟨(Nat.le_of_ble_eq_true rfl), (Nat.le_of_ble_eq_true rfl)⟩) hP hD hS hA [3, 4] [0, 1, 2, 5] rfl rfl (by decide) (by decide) (fun u2 H locs hP hD hS => ?_)
  have hP : va_P g.1 vwCl [(q33, .inl (g.2 0, 10, .inl f34)), (q28, .inr (9, [.ref q33, w30, .int 1, w32])), (q20, .inr (8, [w21, .ref q28, w23, w24, w25, w26, w27])), (q1, .inr (11, [.ref q13, w3, w4, w5, w6, w7, w8, w9, w10, w11, w12])), (q17, .inl (g.2 3, 10, .inr (.inr (.inr (.inr f18))))), (q13, .inr (10, [.ref q17, .int 0, w16]))] H := hP
  have hD : va_D A [(q33, .inl (g.2 0, 10, .inl f34)), (q28, .inr (9, [.ref q33, w30, .int 1, w32])), (q20, .inr (8, [w21, .ref q28, w23, w24, w25, w26, w27])), (q1, .inr (11, [.ref q13, w3, w4, w5, w6, w7, w8, w9, w10, w11, w12])), (q17, .inl (g.2 3, 10, .inr (.inr (.inr (.inr f18))))), (q13, .inr (10, [.ref q17, .int 0, w16]))] := hD
  refine gf_RX9_193 hx hb hown hE hP 2 rfl rfl dX9_timeOf_15 ?_
  refine lv_astore_n (lv' := [(3, .ref q28), (0, .ref q1), (1, .int 0), (2, .int 0)]) hx hb dX9_timeOf_18 rfl hl (by decide) rfl (fun ls hl => ?_)
  refine lv_iload_n hx hb dX9_timeOf_19 rfl (lv_at hl 3 rfl) ?_
  refine lv_if_eq (tgt := 31) hx hb dX9_timeOf_20 (by decide) (fun _ => ?_) (fun h => absurd (by decide) h)
  refine lv_aload_n hx hb dX9_timeOf_31 rfl (lv_at hl 0 rfl) ?_
  refine lv_iload_n hx hb dX9_timeOf_32 rfl (lv_at hl 2 rfl) ?_
  refine g_i (wr := [(q20, .inr (8, [w21, .ref q28, w23, w24, w25, w26, w27])), (q1, .inr (11, [.ref q13, w3, w4, w5, w6, w7, w8, w9, w10, w11, w12])), (q17, .inl (g.2 3, 10, .inr (.inr (.inr (.inr f18))))), (q13, .inr (10, [.ref q17, .int 0, w16]))]) (rV (rest := []) hx hb hml hown hE hP hD 1 rfl rfl (c1781_X7_swungTime l g q28 q33 w30 w32 f34 (hf35) H.size) (kV_X7_swungTime hE (e967 hE) rfl rfl ⟨(Nat.le_of_ble_eq_true rfl), (Nat.le_of_ble_eq_true rfl)⟩) [0, 1] rfl (by decide) rfl hl.1 rfl (lv_room (Nat.le_of_ble_eq_true rfl)) dX9_timeOf_33 ⟨(Nat.le_of_ble_eq_true rfl), (Nat.le_of_ble_eq_true rfl)⟩) hP hD hS hA [0, 1] [2, 3, 4, 5] rfl rfl (by decide) (by decide) (fun u3 H locs hP hD hS => ?_)
  have hP : va_P g.1 vwCl [(q20, .inr (8, [w21, .ref q28, w23, w24, w25, w26, w27])), (q1, .inr (11, [.ref q13, w3, w4, w5, w6, w7, w8, w9, w10, w11, w12])), (q17, .inl (g.2 3, 10, .inr (.inr (.inr (.inr f18))))), (q13, .inr (10, [.ref q17, .int 0, w16])), (q33, .inl (g.2 0, 10, .inl f34)), (q28, .inr (9, [.ref q33, w30, .int 1, w32]))] H := hP
  have hD : va_D A [(q20, .inr (8, [w21, .ref q28, w23, w24, w25, w26, w27])), (q1, .inr (11, [.ref q13, w3, w4, w5, w6, w7, w8, w9, w10, w11, w12])), (q17, .inl (g.2 3, 10, .inr (.inr (.inr (.inr f18))))), (q13, .inr (10, [.ref q17, .int 0, w16])), (q33, .inl (g.2 0, 10, .inl f34)), (q28, .inr (9, [.ref q33, w30, .int 1, w32]))] := hD
  exact x_zret hx hb hr rfl rfl hlocks hP hD hS hAe hsz (Nat.le_of_ble_eq_true rfl) (Nat.le_of_ble_eq_true rfl) (fun _ => 0) [0, 1, 2, 3, 4, 5] (by decide) rfl dX9_timeOf_36

set_option maxHeartbeats 4000000 in
set_option maxRecDepth 100000 in
theorem c1783_L_timeOf (l : Launch) (g : gG) (hlx : l.stackTraces = false) (q1 q2 q14 q18 q21 q29 q34 : Nat) (w4 w5 w6 w7 w8 w9 w10 w11 w12 w13 w17 w22 w24 w25 w26 w27 w28 w31 w33 : Value) (f19 : Nat → Option Nat) (f35 : Nat → Int32) (f37 : Nat → Int64) (hf20 : f19 0 = some q21) (hf36 : f35 0 = 0) (sz : Nat) : Met l yL_timeOf [Cond.codeWith yL_timeOf cL_timeOf 5 (some .int) [(0, 10, 13, 15)]] ({ frames := 4, cells := 0, slots := 0, locals := 91 } : Room) (va_Pc [.ref q1, .int 0, .int 0, .ref q2] (PZ g sz [(q2, .inl (g.2 1, 1, .inr (.inl f37))), (q34, .inl (g.2 0, 10, .inl f35)), (q29, .inr (9, [.ref q34, w31, .int 1, w33])), (q21, .inr (8, [w22, .ref q29, w24, w25, w26, w27, w28])), (q18, .inl (g.2 3, 10, .inr (.inr (.inr (.inr f19))))), (q14, .inr (10, [.ref q18, .int 0, w17])), (q1, .inr (11, [.ref q14, w4, w5, w6, w7, w8, w9, w10, w11, w12, w13]))])) (QI g [(q2, .inl (g.2 1, 1, .inr (.inl f37))), (q34, .inl (g.2 0, 10, .inl f35)), (q29, .inr (9, [.ref q34, w31, .int 1, w33])), (q21, .inr (8, [w22, .ref q29, w24, w25, w26, w27, w28])), (q18, .inl (g.2 3, 10, .inr (.inr (.inr (.inr f19))))), (q14, .inr (10, [.ref q18, .int 0, w17])), (q1, .inr (11, [.ref q14, w4, w5, w6, w7, w8, w9, w10, w11, w12, w13]))] sz 0 (fun _ => [(q2, .inl (g.2 1, 1, .inr (.inl (vp_updL f37 0 0))))])) 0 0 (va_A [(q2, .inl (g.2 1, 1, .inr (.inl f37))), (q34, .inl (g.2 0, 10, .inl f35)), (q29, .inr (9, [.ref q34, w31, .int 1, w33])), (q21, .inr (8, [w22, .ref q29, w24, w25, w26, w27, w28])), (q18, .inl (g.2 3, 10, .inr (.inr (.inr (.inr f19))))), (q14, .inr (10, [.ref q18, .int 0, w17])), (q1, .inr (11, [.ref q14, w4, w5, w6, w7, w8, w9, w10, w11, w12, w13]))] sz) := by
  refine ofH (by decide) (Nat.le_of_ble_eq_true rfl) rfl ?_
  intro p e s m args below meth c A ls hAe hsz hx hb hml hr hlocks hin hown hE hP hD hA hS hl htb hz
  have hown : s.vm.findClass RL = some m.cls := hown
  refine lv_aload_n hx hb dL_timeOf_0 rfl (lv_at hl 3 rfl) ?_
  refine lv_iconst (v := 0) hx hb dL_timeOf_1 (by decide) ?_
  refine lv_aload_n hx hb dL_timeOf_2 rfl (lv_at hl 0 rfl) ?_
  refine lv_iload_n hx hb dL_timeOf_3 rfl (lv_at hl 1 rfl) ?_
  refine lv_iload_n hx hb dL_timeOf_4 rfl (lv_at hl 2 rfl) ?_
  refine g_i (wr := [(q2, .inl (g.2 1, 1, .inr (.inl f37)))]) (rV (rest := [.int 0, .ref q2]) hx hb hml hown hE hP hD 6 rfl rfl (c1782_X9_timeOf l g q1 q14 q18 q21 q29 q34 w4 w5 w6 w7 w8 w9 w10 w11 w12 w13 w17 w22 w24 w25 w26 w27 w28 w31 w33 f19 f35 (hf20) (hf36) s.heap.size) (kV_X9_timeOf hE (e962 hE) rfl rfl ⟨(Nat.le_of_ble_eq_true rfl), (Nat.le_of_ble_eq_true rfl)⟩) [1, 2, 3, 4, 5, 6] rfl (by decide) rfl hl.1 rfl (lv_room (Nat.le_of_ble_eq_true rfl)) dL_timeOf_5 ⟨(Nat.le_of_ble_eq_true rfl), (Nat.le_of_ble_eq_true rfl)⟩) hP hD hS hA [1, 2, 3, 4, 5, 6] [0] rfl rfl (by decide) (by decide) (fun u1 H locs hP hD hS => ?_)
  have hP : va_P g.1 vwCl [(q2, .inl (g.2 1, 1, .inr (.inl f37))), (q21, .inr (8, [w22, .ref q29, w24, w25, w26, w27, w28])), (q1, .inr (11, [.ref q14, w4, w5, w6, w7, w8, w9, w10, w11, w12, w13])), (q18, .inl (g.2 3, 10, .inr (.inr (.inr (.inr f19))))), (q14, .inr (10, [.ref q18, .int 0, w17])), (q34, .inl (g.2 0, 10, .inl f35)), (q29, .inr (9, [.ref q34, w31, .int 1, w33]))] H := hP
  have hD : va_D A [(q2, .inl (g.2 1, 1, .inr (.inl f37))), (q21, .inr (8, [w22, .ref q29, w24, w25, w26, w27, w28])), (q1, .inr (11, [.ref q14, w4, w5, w6, w7, w8, w9, w10, w11, w12, w13])), (q18, .inl (g.2 3, 10, .inr (.inr (.inr (.inr f19))))), (q14, .inr (10, [.ref q18, .int 0, w17])), (q34, .inl (g.2 0, 10, .inl f35)), (q29, .inr (9, [.ref q34, w31, .int 1, w33]))] := hD
  refine lv_i2l (v := 0) hx hb dL_timeOf_8 (by decide) ?_
  refine x_last (ws' := [(q2, .inl (g.2 1, 1, .inr (.inl (vp_updL f37 0 0)))), (q21, .inr (8, [w22, .ref q29, w24, w25, w26, w27, w28])), (q1, .inr (11, [.ref q14, w4, w5, w6, w7, w8, w9, w10, w11, w12, w13])), (q18, .inl (g.2 3, 10, .inr (.inr (.inr (.inr f19))))), (q14, .inr (10, [.ref q18, .int 0, w17])), (q34, .inl (g.2 0, 10, .inl f35)), (q29, .inr (9, [.ref q34, w31, .int 1, w33]))]) hx hb hE hP hD hS 0 rfl 0 (x_in (by decide)) (by decide) dL_timeOf_9 rfl (fun H locs hP hD hS => ?_)
  refine lv_goto (tgt := 17) hx hb dL_timeOf_10 (by decide) ?_
  refine lv_iconst (v := 0) hx hb dL_timeOf_17 (by decide) ?_
  exact x_zret hx hb hr rfl rfl hlocks hP hD hS hAe hsz (Nat.le_of_ble_eq_true rfl) (Nat.le_of_ble_eq_true rfl) (fun _ => 0) [0] (by decide) rfl dL_timeOf_18

set_option maxHeartbeats 4000000 in
set_option maxRecDepth 100000 in
theorem c1784_X10_time (l : Launch) (g : gG) (q1 q39 : Nat) (w3 w4 w5 w6 w7 w8 w9 w10 w11 w12 w13 w14 w15 w16 w17 w18 w19 w20 w21 w22 w23 w24 w25 w26 w27 w28 w29 w30 w31 w32 w33 w34 w35 w36 w37 w38 : Value) (f40 : Nat → Int32) (hf41 : f40 453 = 1) (hf42 : f40 454 = 0) (hf43 : f40 455 = 100) (sz : Nat) : Met l yX10_time [Cond.code yX10_time cX10_time 7 (some .int)] ({ frames := 1, cells := 0, slots := 0, locals := 24 } : Room) (va_Pc [.ref q1, .int 0, .int 0] (PX g sz [(q39, .inl (g.2 0, 497, .inl f40)), (q1, .inr (12, [.ref q39, w3, w4, w5, w6, w7, w8, w9, w10, w11, w12, w13, w14, w15, w16, w17, w18, w19, w20, w21, w22, w23, w24, w25, w26, w27, w28, w29, w30, w31, w32, w33, w34, w35, w36, w37, w38]))])) (QI g [(q39, .inl (g.2 0, 497, .inl f40)), (q1, .inr (12, [.ref q39, w3, w4, w5, w6, w7, w8, w9, w10, w11, w12, w13, w14, w15, w16, w17, w18, w19, w20, w21, w22, w23, w24, w25, w26, w27, w28, w29, w30, w31, w32, w33, w34, w35, w36, w37, w38]))] sz 0 (fun _ => [(q39, .inl (g.2 0, 497, .inl f40)), (q1, .inr (12, [.ref q39, w3, w4, w5, w6, w7, w8, w9, w10, w11, w12, w13, w14, w15, w16, w17, w18, w19, w20, w21, w22, w23, w24, w25, w26, w27, w28, w29, w30, w31, w32, w33, w34, w35, w36, w37, w38]))])) 0 0 (va_A [(q39, .inl (g.2 0, 497, .inl f40)), (q1, .inr (12, [.ref q39, w3, w4, w5, w6, w7, w8, w9, w10, w11, w12, w13, w14, w15, w16, w17, w18, w19, w20, w21, w22, w23, w24, w25, w26, w27, w28, w29, w30, w31, w32, w33, w34, w35, w36, w37, w38]))] sz) := by
  refine ofN (by decide) (Nat.le_of_ble_eq_true rfl) rfl ?_
  intro p e s m args below meth c A ls hAe hsz hx hb hml hr hlocks hin hown hE hP hD hA hS hl
  have hown : s.vm.findClass RX10 = some m.cls := hown
  refine lv_iconst (v := 0) hx hb dX10_time_0 (by decide) ?_
  refine lv_istore_n (lv' := [(3, .int 0), (0, .ref q1), (1, .int 0), (2, .int 0)]) hx hb dX10_time_1 rfl hl (by decide) rfl (fun ls hl => ?_)
  refine lv_iconst (v := 0) hx hb dX10_time_2 (by decide) ?_
  refine lv_istore (lv' := [(4, .int 0), (3, .int 0), (0, .ref q1), (1, .int 0), (2, .int 0)]) hx hb dX10_time_3 hl (by decide) rfl (fun ls hl => ?_)
  refine lv_iload hx hb dX10_time_5 (lv_at hl 0 rfl) ?_
  refine lv_aload_n hx hb dX10_time_7 rfl (lv_at hl 2 rfl) ?_
  refine gf_RX10_9 hx hb hown hE hP 1 rfl rfl dX10_time_8 ?_
  refine lv_sipush (v := 453) hx hb dX10_time_11 (by decide) ?_
  refine x_iald (v := 1) hx hb hE hP 0 rfl 453 (x_in (by decide)) (by decide) hf41 dX10_time_14 ?_
  refine lv_icmp_ge (tgt := 107) hx hb dX10_time_15 (by decide) (fun h => absurd h (by decide)) (fun _ => ?_)
  refine lv_aload_n hx hb dX10_time_18 rfl (lv_at hl 2 rfl) ?_
  refine gf_RX10_9 hx hb hown hE hP 1 rfl rfl dX10_time_19 ?_
  refine lv_sipush (v := 454) hx hb dX10_time_22 (by decide) ?_
  refine lv_iconst (v := 2) hx hb dX10_time_25 (by decide) ?_
  refine lv_iload hx hb dX10_time_26 (lv_at hl 0 rfl) ?_
  refine x_imul (v := 0) hx hb dX10_time_28 (by decide) ?_
  refine x_iadd (v := 454) hx hb dX10_time_29 (by decide) ?_
  refine x_iald (v := 0) hx hb hE hP 0 rfl 454 (x_in (by decide)) (by decide) hf42 dX10_time_30 ?_
  refine lv_istore (lv' := [(5, .int 0), (4, .int 0), (3, .int 0), (0, .ref q1), (1, .int 0), (2, .int 0)]) hx hb dX10_time_31 hl (by decide) rfl (fun ls hl => ?_)
  refine lv_iload hx hb dX10_time_33 (lv_at hl 1 rfl) ?_
  refine lv_iconst (v := 1) hx hb dX10_time_35 (by decide) ?_
  refine x_iadd (v := 1) hx hb dX10_time_36 (by decide) ?_
  refine lv_aload_n hx hb dX10_time_37 rfl (lv_at hl 3 rfl) ?_
  refine gf_RX10_9 hx hb hown hE hP 1 rfl rfl dX10_time_38 ?_
  refine lv_sipush (v := 453) hx hb dX10_time_41 (by decide) ?_
  refine x_iald (v := 1) hx hb hE hP 0 rfl 453 (x_in (by decide)) (by decide) hf41 dX10_time_44 ?_
  refine lv_icmp_ge (tgt := 70) hx hb dX10_time_45 (by decide) (fun _ => ?_) (fun h => absurd (by decide) h)
  refine lv_iload_n hx hb dX10_time_70 rfl (lv_at hl 4 rfl) ?_
  refine lv_istore (lv' := [(6, .int 0), (5, .int 0), (4, .int 0), (3, .int 0), (0, .ref q1), (1, .int 0), (2, .int 0)]) hx hb dX10_time_71 hl (by decide) rfl (fun ls hl => ?_)
  refine lv_iload_n hx hb dX10_time_73 rfl (lv_at hl 3 rfl) ?_
  refine lv_iconst (v := 0) hx hb dX10_time_74 (by decide) ?_
  refine lv_iload hx hb dX10_time_75 (lv_at hl 0 rfl) ?_
  refine lv_iload hx hb dX10_time_77 (lv_at hl 1 rfl) ?_
  refine x_isub (v := 0) hx hb dX10_time_79 (by decide) ?_
  refine x_mmax (v := 0) hx hb (by rw [hml]; exact hl.1.symm) hown (e1506 hE) (e165 hE) (e9 hE) (e166 hE) (Nat.le_of_ble_eq_true rfl) (Nat.le_of_ble_eq_true rfl) (Nat.le_of_ble_eq_true rfl) (Nat.le_of_ble_eq_true rfl) (by decide) dX10_time_80 ?_
  refine lv_aload_n hx hb dX10_time_83 rfl (lv_at hl 4 rfl) ?_
  refine gf_RX10_9 hx hb hown hE hP 1 rfl rfl dX10_time_84 ?_
  refine lv_sipush (v := 454) hx hb dX10_time_87 (by decide) ?_
  refine lv_iconst (v := 2) hx hb dX10_time_90 (by decide) ?_
  refine lv_iload hx hb dX10_time_91 (lv_at hl 2 rfl) ?_
  refine x_imul (v := 0) hx hb dX10_time_93 (by decide) ?_
  refine x_iadd (v := 454) hx hb dX10_time_94 (by decide) ?_
  refine lv_iconst (v := 1) hx hb dX10_time_95 (by decide) ?_
  refine x_iadd (v := 455) hx hb dX10_time_96 (by decide) ?_
  refine x_iald (v := 100) hx hb hE hP 0 rfl 455 (x_in (by decide)) (by decide) hf43 dX10_time_97 ?_
  refine x_imul (v := 0) hx hb dX10_time_98 (by decide) ?_
  refine x_iadd (v := 0) hx hb dX10_time_99 (by decide) ?_
  refine lv_istore_n (lv' := [(3, .int 0), (6, .int 0), (5, .int 0), (4, .int 0), (0, .ref q1), (1, .int 0), (2, .int 0)]) hx hb dX10_time_100 rfl hl (by decide) rfl (fun ls hl => ?_)
  refine lv_iinc (v := 1) (lv' := [(4, .int 1), (3, .int 0), (6, .int 0), (5, .int 0), (0, .ref q1), (1, .int 0), (2, .int 0)]) hx hb dX10_time_101 hl (k := 3) rfl (by decide) (by decide) rfl (fun ls hl => ?_)
  refine lv_goto (tgt := 5) hx hb dX10_time_104 (by decide) ?_
  refine lv_iload hx hb dX10_time_5 (lv_at hl 0 rfl) ?_
  refine lv_aload_n hx hb dX10_time_7 rfl (lv_at hl 4 rfl) ?_
  refine gf_RX10_9 hx hb hown hE hP 1 rfl rfl dX10_time_8 ?_
  refine lv_sipush (v := 453) hx hb dX10_time_11 (by decide) ?_
  refine x_iald (v := 1) hx hb hE hP 0 rfl 453 (x_in (by decide)) (by decide) hf41 dX10_time_14 ?_
  refine lv_icmp_ge (tgt := 107) hx hb dX10_time_15 (by decide) (fun _ => ?_) (fun h => absurd (by decide) h)
  refine lv_iload_n hx hb dX10_time_107 rfl (lv_at hl 6 rfl) ?_
  refine lv_if_ne (tgt := 117) hx hb dX10_time_108 (by decide) (fun h => absurd h (by decide)) (fun _ => ?_)
  refine lv_iload_n hx hb dX10_time_111 rfl (lv_at hl 5 rfl) ?_
  refine lv_iconst (v := 2) hx hb dX10_time_112 (by decide) ?_
  refine lv_irem hx hb dX10_time_113 (by decide) ?_
  refine x_top (v := 0) (by decide) ?_
  refine lv_if_ne (tgt := 121) hx hb dX10_time_114 (by decide) (fun h => absurd h (by decide)) (fun _ => ?_)
  refine lv_iload_n hx hb dX10_time_117 rfl (lv_at hl 1 rfl) ?_
  refine lv_goto (tgt := 140) hx hb dX10_time_118 (by decide) ?_
  exact x_zret hx hb hr rfl rfl hlocks hP hD hS hAe hsz (Nat.le_of_ble_eq_true rfl) (Nat.le_of_ble_eq_true rfl) (fun _ => 0) [0, 1] (by decide) rfl dX10_time_140

set_option maxHeartbeats 4000000 in
set_option maxRecDepth 100000 in
theorem c1785_X10_timeOf (l : Launch) (g : gG) (q1 q39 : Nat) (w3 w4 w5 w6 w7 w8 w9 w10 w11 w12 w13 w14 w15 w16 w17 w18 w19 w20 w21 w22 w23 w24 w25 w26 w27 w28 w29 w30 w31 w32 w33 w34 w35 w36 w37 w38 : Value) (f40 : Nat → Int32) (hf41 : f40 453 = 1) (hf42 : f40 454 = 0) (hf43 : f40 455 = 100) (sz : Nat) : Met l yX10_timeOf [Cond.code yX10_timeOf cX10_timeOf 3 (some .int)] ({ frames := 2, cells := 0, slots := 0, locals := 50 } : Room) (va_Pc [.ref q1, .int 0, .int 0] (PX g sz [(q39, .inl (g.2 0, 497, .inl f40)), (q1, .inr (12, [.ref q39, w3, w4, w5, w6, w7, w8, w9, w10, w11, w12, w13, w14, w15, w16, w17, w18, w19, w20, w21, w22, w23, w24, w25, w26, w27, w28, w29, w30, w31, w32, w33, w34, w35, w36, w37, w38]))])) (QI g [(q39, .inl (g.2 0, 497, .inl f40)), (q1, .inr (12, [.ref q39, w3, w4, w5, w6, w7, w8, w9, w10, w11, w12, w13, w14, w15, w16, w17, w18, w19, w20, w21, w22, w23, w24, w25, w26, w27, w28, w29, w30, w31, w32, w33, w34, w35, w36, w37, w38]))] sz 0 (fun _ => [(q1, .inr (12, [.ref q39, w3, w4, w5, w6, w7, .int 0, w9, w10, w11, w12, w13, w14, w15, w16, w17, w18, w19, w20, w21, w22, w23, w24, w25, w26, w27, w28, w29, w30, w31, w32, w33, w34, w35, w36, w37, w38]))])) 0 0 (va_A [(q39, .inl (g.2 0, 497, .inl f40)), (q1, .inr (12, [.ref q39, w3, w4, w5, w6, w7, w8, w9, w10, w11, w12, w13, w14, w15, w16, w17, w18, w19, w20, w21, w22, w23, w24, w25, w26, w27, w28, w29, w30, w31, w32, w33, w34, w35, w36, w37, w38]))] sz) := by
  refine ofN (by decide) (Nat.le_of_ble_eq_true rfl) rfl ?_
  intro p e s m args below meth c A ls hAe hsz hx hb hml hr hlocks hin hown hE hP hD hA hS hl
  have hown : s.vm.findClass RX10 = some m.cls := hown
  refine lv_aload_n hx hb dX10_timeOf_0 rfl (lv_at hl 0 rfl) ?_
  refine lv_iload_n hx hb dX10_timeOf_1 rfl (lv_at hl 1 rfl) ?_
  refine lv_iconst (v := 0) hx hb dX10_timeOf_2 (by decide) ?_
  refine lv_sipush (v := 30000) hx hb dX10_timeOf_3 (by decide) ?_
  refine g0_i (rS (rest := [.ref q1]) hx hb hml hown hE hP hD (c1703_X10_in l g 0 (by decide) (by decide) s.heap.size) (kS_X10_in hE (e1431 hE) rfl rfl ⟨(Nat.le_of_ble_eq_true rfl), (Nat.le_of_ble_eq_true rfl)⟩) [] rfl (by decide) rfl hl.1 rfl (lv_room (Nat.le_of_ble_eq_true rfl)) dX10_timeOf_6 ⟨(Nat.le_of_ble_eq_true rfl), (Nat.le_of_ble_eq_true rfl)⟩) hP hD hS hA (fun u9 H locs hP hS => ?_)
  refine lv_if_eq (tgt := 16) hx hb dX10_timeOf_9 (by decide) (fun h => absurd h (by decide)) (fun _ => ?_)
  refine lv_iconst (v := 0) hx hb dX10_timeOf_12 (by decide) ?_
  refine lv_goto (tgt := 17) hx hb dX10_timeOf_13 (by decide) ?_
  refine pf_RX10_86 (ws' := [(q39, .inl (g.2 0, 497, .inl f40)), (q1, .inr (12, [.ref q39, w3, w4, w5, w6, w7, .int 0, w9, w10, w11, w12, w13, w14, w15, w16, w17, w18, w19, w20, w21, w22, w23, w24, w25, w26, w27, w28, w29, w30, w31, w32, w33, w34, w35, w36, w37, w38]))]) hx hb hown hE hP hD hS 1 rfl rfl rfl (Nat.le_of_ble_eq_true rfl) dX10_timeOf_17 rfl (fun H locs hP hD hS => ?_)
  refine lv_aload_n hx hb dX10_timeOf_20 rfl (lv_at hl 0 rfl) ?_
  refine gf_RX10_86 hx hb hown hE hP 1 rfl rfl dX10_timeOf_21 ?_
  refine lv_if_le (tgt := 31) hx hb dX10_timeOf_24 (by decide) (fun _ => ?_) (fun h => absurd (by decide) h)
  refine lv_aload_n hx hb dX10_timeOf_31 rfl (lv_at hl 0 rfl) ?_
  refine lv_iload_n hx hb dX10_timeOf_32 rfl (lv_at hl 1 rfl) ?_
  refine lv_iload_n hx hb dX10_timeOf_33 rfl (lv_at hl 2 rfl) ?_
  refine g_i (wr := []) (rV (rest := []) hx hb hml hown hE hP hD 1 rfl rfl (c1784_X10_time l g q1 q39 w3 w4 w5 w6 w7 (.int 0) w9 w10 w11 w12 w13 w14 w15 w16 w17 w18 w19 w20 w21 w22 w23 w24 w25 w26 w27 w28 w29 w30 w31 w32 w33 w34 w35 w36 w37 w38 f40 (hf41) (hf42) (hf43) H.size) (kV_X10_time hE (e1551 hE) rfl rfl ⟨(Nat.le_of_ble_eq_true rfl), (Nat.le_of_ble_eq_true rfl)⟩) [0, 1] rfl (by decide) rfl hl.1 rfl (lv_room (Nat.le_of_ble_eq_true rfl)) dX10_timeOf_34 ⟨(Nat.le_of_ble_eq_true rfl), (Nat.le_of_ble_eq_true rfl)⟩) hP hD hS hA [0, 1] [] rfl rfl (by decide) (by decide) (fun u2 H locs hP hD hS => ?_)
  have hP : va_P g.1 vwCl [(q39, .inl (g.2 0, 497, .inl f40)), (q1, .inr (12, [.ref q39, w3, w4, w5, w6, w7, .int 0, w9, w10, w11, w12, w13, w14, w15, w16, w17, w18, w19, w20, w21, w22, w23, w24, w25, w26, w27, w28, w29, w30, w31, w32, w33, w34, w35, w36, w37, w38]))] H := hP
  have hD : va_D A [(q39, .inl (g.2 0, 497, .inl f40)), (q1, .inr (12, [.ref q39, w3, w4, w5, w6, w7, .int 0, w9, w10, w11, w12, w13, w14, w15, w16, w17, w18, w19, w20, w21, w22, w23, w24, w25, w26, w27, w28, w29, w30, w31, w32, w33, w34, w35, w36, w37, w38]))] := hD
  exact x_zret hx hb hr rfl rfl hlocks hP hD hS hAe hsz (Nat.le_of_ble_eq_true rfl) (Nat.le_of_ble_eq_true rfl) (fun _ => 0) [1] (by decide) rfl dX10_timeOf_37

set_option maxHeartbeats 4000000 in
set_option maxRecDepth 100000 in
theorem c1786_X7_plainTime (l : Launch) (g : gG) (q1 q7 q11 : Nat) (x2 : Int32) (w6 : Value) (f8 : Nat → Int32) (f12 : Nat → Int32) (hf9 : f8 0 = 0) (hf13 : f12 0 = 100) (h10 : (0 : Int32) < x2) (sz : Nat) : Met l yX7_plainTime [Cond.code yX7_plainTime cX7_plainTime 6 (some .int)] ({ frames := 1, cells := 0, slots := 0, locals := 21 } : Room) (va_Pc [.ref q1, .int x2] (PX g sz [(q11, .inl (g.2 0, 10, .inl f12)), (q7, .inl (g.2 0, 10, .inl f8)), (q1, .inr (9, [.ref q7, .ref q11, .int 1, w6]))])) (QI g [(q11, .inl (g.2 0, 10, .inl f12)), (q7, .inl (g.2 0, 10, .inl f8)), (q1, .inr (9, [.ref q7, .ref q11, .int 1, w6]))] sz (x2 * 100) (fun _ => [(q7, .inl (g.2 0, 10, .inl f8)), (q11, .inl (g.2 0, 10, .inl f12)), (q1, .inr (9, [.ref q7, .ref q11, .int 1, w6]))])) 0 0 (va_A [(q11, .inl (g.2 0, 10, .inl f12)), (q7, .inl (g.2 0, 10, .inl f8)), (q1, .inr (9, [.ref q7, .ref q11, .int 1, w6]))] sz) := by
  refine ofN (by decide) (Nat.le_of_ble_eq_true rfl) rfl ?_
  intro p e s m args below meth c A ls hAe hsz hx hb hml hr hlocks hin hown hE hP hD hA hS hl
  have hown : s.vm.findClass RX7 = some m.cls := hown
  refine lv_iconst (v := 0) hx hb dX7_plainTime_0 (by decide) ?_
  refine lv_istore_n (lv' := [(2, .int 0), (0, .ref q1), (1, .int x2)]) hx hb dX7_plainTime_1 rfl hl (by decide) rfl (fun ls hl => ?_)
  refine lv_iload_n hx hb dX7_plainTime_2 rfl (lv_at hl 2 rfl) ?_
  refine lv_istore_n (lv' := [(3, .int x2), (2, .int 0), (0, .ref q1), (1, .int x2)]) hx hb dX7_plainTime_3 rfl hl (by decide) rfl (fun ls hl => ?_)
  refine lv_aload_n hx hb dX7_plainTime_4 rfl (lv_at hl 2 rfl) ?_
  refine gf_RX7_18 hx hb hown hE hP 2 rfl rfl dX7_plainTime_5 ?_
  refine lv_iconst (v := 1) hx hb dX7_plainTime_8 (by decide) ?_
  refine x_isub (v := 0) hx hb dX7_plainTime_9 (by decide) ?_
  refine lv_istore (lv' := [(4, .int 0), (3, .int x2), (2, .int 0), (0, .ref q1), (1, .int x2)]) hx hb dX7_plainTime_10 hl (by decide) rfl (fun ls hl => ?_)
  refine lv_iload hx hb dX7_plainTime_12 (lv_at hl 0 rfl) ?_
  refine lv_if_lt (tgt := 54) hx hb dX7_plainTime_14 (by decide) (fun h => absurd h (by decide)) (fun _ => ?_)
  refine lv_aload_n hx hb dX7_plainTime_17 rfl (lv_at hl 3 rfl) ?_
  refine lv_iload hx hb dX7_plainTime_18 (lv_at hl 0 rfl) ?_
  refine g_i (wr := [(q11, .inl (g.2 0, 10, .inl f12))]) (rV (rest := []) hx hb hml hown hE hP hD 2 rfl rfl (c1707_X7_placeTick l g q1 q7 (.ref q11) (.int 1) w6 f8 (hf9) s.heap.size) (kV_X7_placeTick hE (e409 hE) rfl rfl ⟨(Nat.le_of_ble_eq_true rfl), (Nat.le_of_ble_eq_true rfl)⟩) [1, 2] rfl (by decide) rfl hl.1 rfl (lv_room (Nat.le_of_ble_eq_true rfl)) dX7_plainTime_20 ⟨(Nat.le_of_ble_eq_true rfl), (Nat.le_of_ble_eq_true rfl)⟩) hP hD hS hA [1, 2] [0] rfl rfl (by decide) (by decide) (fun u1 H locs hP hD hS => ?_)
  have hP : va_P g.1 vwCl [(q11, .inl (g.2 0, 10, .inl f12)), (q7, .inl (g.2 0, 10, .inl f8)), (q1, .inr (9, [.ref q7, .ref q11, .int 1, w6]))] H := hP
  have hD : va_D A [(q11, .inl (g.2 0, 10, .inl f12)), (q7, .inl (g.2 0, 10, .inl f8)), (q1, .inr (9, [.ref q7, .ref q11, .int 1, w6]))] := hD
  refine lv_istore (lv' := [(5, .int 0), (4, .int 0), (3, .int x2), (2, .int 0), (0, .ref q1), (1, .int x2)]) hx hb dX7_plainTime_23 hl (by decide) rfl (fun ls hl => ?_)
  refine lv_iload hx hb dX7_plainTime_25 (lv_at hl 0 rfl) ?_
  refine lv_iload_n hx hb dX7_plainTime_27 rfl (lv_at hl 2 rfl) ?_
  refine lv_icmp_ge (tgt := 48) hx hb dX7_plainTime_28 (by decide) (fun h => absurd h (i_nle h10)) (fun _ => ?_)
  refine lv_iload_n hx hb dX7_plainTime_31 rfl (lv_at hl 3 rfl) ?_
  refine lv_iload_n hx hb dX7_plainTime_32 rfl (lv_at hl 2 rfl) ?_
  refine lv_iload hx hb dX7_plainTime_33 (lv_at hl 0 rfl) ?_
  refine x_isub (v := x2) hx hb dX7_plainTime_35 (Int32.sub_zero _) ?_
  refine lv_aload_n hx hb dX7_plainTime_36 rfl (lv_at hl 4 rfl) ?_
  refine lv_iload hx hb dX7_plainTime_37 (lv_at hl 1 rfl) ?_
  refine g_i (wr := [(q7, .inl (g.2 0, 10, .inl f8))]) (rV (rest := [.int x2, .int 0]) hx hb hml hown hE hP hD 2 rfl rfl (c1742_X7_placePace l g q1 q11 (.ref q7) (.int 1) w6 f12 (hf13) H.size) (kV_X7_placePace hE (e413 hE) rfl rfl ⟨(Nat.le_of_ble_eq_true rfl), (Nat.le_of_ble_eq_true rfl)⟩) [0, 2] rfl (by decide) rfl hl.1 rfl (lv_room (Nat.le_of_ble_eq_true rfl)) dX7_plainTime_39 ⟨(Nat.le_of_ble_eq_true rfl), (Nat.le_of_ble_eq_true rfl)⟩) hP hD hS hA [0, 2] [1] rfl rfl (by decide) (by decide) (fun u2 H locs hP hD hS => ?_)
  have hP : va_P g.1 vwCl [(q7, .inl (g.2 0, 10, .inl f8)), (q11, .inl (g.2 0, 10, .inl f12)), (q1, .inr (9, [.ref q7, .ref q11, .int 1, w6]))] H := hP
  have hD : va_D A [(q7, .inl (g.2 0, 10, .inl f8)), (q11, .inl (g.2 0, 10, .inl f12)), (q1, .inr (9, [.ref q7, .ref q11, .int 1, w6]))] := hD
  refine x_imul (v := (x2 * 100)) hx hb dX7_plainTime_42 rfl ?_
  refine x_iadd (v := (x2 * 100)) hx hb dX7_plainTime_43 (Int32.zero_add _) ?_
  refine lv_istore_n (lv' := [(2, .int (x2 * 100)), (5, .int 0), (4, .int 0), (3, .int x2), (0, .ref q1), (1, .int x2)]) hx hb dX7_plainTime_44 rfl hl (by decide) rfl (fun ls hl => ?_)
  refine lv_iload hx hb dX7_plainTime_45 (lv_at hl 1 rfl) ?_
  refine lv_istore_n (lv' := [(3, .int 0), (2, .int (x2 * 100)), (5, .int 0), (4, .int 0), (0, .ref q1), (1, .int x2)]) hx hb dX7_plainTime_47 rfl hl (by decide) rfl (fun ls hl => ?_)
  refine lv_iinc (v := (-1)) (lv' := [(4, .int (-1)), (3, .int 0), (2, .int (x2 * 100)), (5, .int 0), (0, .ref q1), (1, .int x2)]) hx hb dX7_plainTime_48 hl (k := 3) rfl (by decide) (by decide) rfl (fun ls hl => ?_)
  refine lv_goto (tgt := 12) hx hb dX7_plainTime_51 (by decide) ?_
  refine lv_iload hx hb dX7_plainTime_12 (lv_at hl 0 rfl) ?_
  refine lv_if_lt (tgt := 54) hx hb dX7_plainTime_14 (by decide) (fun _ => ?_) (fun h => absurd (by decide) h)
  refine lv_iload_n hx hb dX7_plainTime_54 rfl (lv_at hl 2 rfl) ?_
  exact x_zret hx hb hr rfl rfl hlocks hP hD hS hAe hsz (Nat.le_of_ble_eq_true rfl) (Nat.le_of_ble_eq_true rfl) (fun _ => 0) [0, 1, 2] (by decide) rfl dX7_plainTime_55

set_option maxHeartbeats 4000000 in
set_option maxRecDepth 100000 in
theorem c1787_X7_swungTime (l : Launch) (g : gG) (q1 q7 q11 : Nat) (x2 : Int32) (w6 : Value) (f8 : Nat → Int32) (f12 : Nat → Int32) (hf9 : f8 0 = 0) (hf13 : f12 0 = 100) (h10 : (0 : Int32) < x2) (h14 : ¬ (x2 &&& 1) = 1) (sz : Nat) : Met l yX7_swungTime [Cond.code yX7_swungTime cX7_swungTime 3 (some .int)] ({ frames := 2, cells := 0, slots := 0, locals := 46 } : Room) (va_Pc [.ref q1, .int x2] (PX g sz [(q11, .inl (g.2 0, 10, .inl f12)), (q7, .inl (g.2 0, 10, .inl f8)), (q1, .inr (9, [.ref q7, .ref q11, .int 1, w6]))])) (QI g [(q11, .inl (g.2 0, 10, .inl f12)), (q7, .inl (g.2 0, 10, .inl f8)), (q1, .inr (9, [.ref q7, .ref q11, .int 1, w6]))] sz (x2 * 100) (fun _ => [(q7, .inl (g.2 0, 10, .inl f8)), (q11, .inl (g.2 0, 10, .inl f12)), (q1, .inr (9, [.ref q7, .ref q11, .int 1, w6]))])) 0 0 (va_A [(q11, .inl (g.2 0, 10, .inl f12)), (q7, .inl (g.2 0, 10, .inl f8)), (q1, .inr (9, [.ref q7, .ref q11, .int 1, w6]))] sz) := by
  refine ofN (by decide) (Nat.le_of_ble_eq_true rfl) rfl ?_
  intro p e s m args below meth c A ls hAe hsz hx hb hml hr hlocks hin hown hE hP hD hA hS hl
  have hown : s.vm.findClass RX7 = some m.cls := hown
  refine lv_aload_n hx hb dX7_swungTime_0 rfl (lv_at hl 0 rfl) ?_
  refine lv_iload_n hx hb dX7_swungTime_1 rfl (lv_at hl 1 rfl) ?_
  refine g_i (wr := []) (rV (rest := []) hx hb hml hown hE hP hD 2 rfl rfl (c1786_X7_plainTime l g q1 q7 q11 x2 w6 f8 f12 (hf9) (hf13) h10 s.heap.size) (kV_X7_plainTime hE (e405 hE) rfl rfl ⟨(Nat.le_of_ble_eq_true rfl), (Nat.le_of_ble_eq_true rfl)⟩) [0, 1, 2] rfl (by decide) rfl hl.1 rfl (lv_room (Nat.le_of_ble_eq_true rfl)) dX7_swungTime_2 ⟨(Nat.le_of_ble_eq_true rfl), (Nat.le_of_ble_eq_true rfl)⟩) hP hD hS hA [0, 1, 2] [] rfl rfl (by decide) (by decide) (fun u1 H locs hP hD hS => ?_)
  have hP : va_P g.1 vwCl [(q7, .inl (g.2 0, 10, .inl f8)), (q11, .inl (g.2 0, 10, .inl f12)), (q1, .inr (9, [.ref q7, .ref q11, .int 1, w6]))] H := hP
  have hD : va_D A [(q7, .inl (g.2 0, 10, .inl f8)), (q11, .inl (g.2 0, 10, .inl f12)), (q1, .inr (9, [.ref q7, .ref q11, .int 1, w6]))] := hD
  refine lv_istore_n (lv' := [(2, .int (x2 * 100)), (0, .ref q1), (1, .int x2)]) hx hb dX7_swungTime_5 rfl hl (by decide) rfl (fun ls hl => ?_)
  refine lv_iload_n hx hb dX7_swungTime_6 rfl (lv_at hl 2 rfl) ?_
  refine lv_iconst (v := 1) hx hb dX7_swungTime_7 (by decide) ?_
  refine x_iand (v := (x2 &&& 1)) hx hb dX7_swungTime_8 rfl ?_
  refine lv_iconst (v := 1) hx hb dX7_swungTime_9 (by decide) ?_
  refine lv_icmp_ne (tgt := 31) hx hb dX7_swungTime_10 (by decide) (fun _ => ?_) (fun h => absurd h h14)
  refine lv_iload_n hx hb dX7_swungTime_31 rfl (lv_at hl 0 rfl) ?_
  exact x_zret hx hb hr rfl rfl hlocks hP hD hS hAe hsz (Nat.le_of_ble_eq_true rfl) (Nat.le_of_ble_eq_true rfl) (fun _ => 0) [0, 1, 2] (by decide) rfl dX7_swungTime_32

set_option maxHeartbeats 4000000 in
set_option maxRecDepth 100000 in
theorem c1788_X9_timeOf (l : Launch) (g : gG) (q1 q16 q20 q23 q31 q36 q40 : Nat) (x2 : Int32) (w6 w7 w8 w9 w10 w11 w12 w13 w14 w15 w19 w24 w26 w27 w28 w29 w30 w35 : Value) (f21 : Nat → Option Nat) (f37 : Nat → Int32) (f41 : Nat → Int32) (hf22 : f21 0 = some q23) (hf38 : f37 0 = 0) (hf42 : f41 0 = 100) (h3 : (0 : Int32) ≤ x2) (h4 : x2 ≤ 30000) (h39 : (0 : Int32) < x2) (h43 : ¬ (x2 &&& 1) = 1) (sz : Nat) : Met l yX9_timeOf [Cond.code yX9_timeOf cX9_timeOf 4 (some .int)] ({ frames := 3, cells := 0, slots := 0, locals := 68 } : Room) (va_Pc [.ref q1, .int x2, .int 0] (PX g sz [(q40, .inl (g.2 0, 10, .inl f41)), (q36, .inl (g.2 0, 10, .inl f37)), (q31, .inr (9, [.ref q36, .ref q40, .int 1, w35])), (q23, .inr (8, [w24, .ref q31, w26, w27, w28, w29, w30])), (q20, .inl (g.2 3, 10, .inr (.inr (.inr (.inr f21))))), (q16, .inr (10, [.ref q20, .int 0, w19])), (q1, .inr (11, [.ref q16, w6, w7, w8, w9, w10, w11, w12, w13, w14, w15]))])) (QI g [(q40, .inl (g.2 0, 10, .inl f41)), (q36, .inl (g.2 0, 10, .inl f37)), (q31, .inr (9, [.ref q36, .ref q40, .int 1, w35])), (q23, .inr (8, [w24, .ref q31, w26, w27, w28, w29, w30])), (q20, .inl (g.2 3, 10, .inr (.inr (.inr (.inr f21))))), (q16, .inr (10, [.ref q20, .int 0, w19])), (q1, .inr (11, [.ref q16, w6, w7, w8, w9, w10, w11, w12, w13, w14, w15]))] sz (x2 * 100) (fun _ => [(q23, .inr (8, [w24, .ref q31, w26, w27, w28, w29, w30])), (q1, .inr (11, [.ref q16, w6, w7, w8, w9, w10, w11, w12, w13, w14, w15])), (q20, .inl (g.2 3, 10, .inr (.inr (.inr (.inr f21))))), (q16, .inr (10, [.ref q20, .int 0, w19])), (q36, .inl (g.2 0, 10, .inl f37)), (q40, .inl (g.2 0, 10, .inl f41)), (q31, .inr (9, [.ref q36, .ref q40, .int 1, w35]))])) 0 0 (va_A [(q40, .inl (g.2 0, 10, .inl f41)), (q36, .inl (g.2 0, 10, .inl f37)), (q31, .inr (9, [.ref q36, .ref q40, .int 1, w35])), (q23, .inr (8, [w24, .ref q31, w26, w27, w28, w29, w30])), (q20, .inl (g.2 3, 10, .inr (.inr (.inr (.inr f21))))), (q16, .inr (10, [.ref q20, .int 0, w19])), (q1, .inr (11, [.ref q16, w6, w7, w8, w9, w10, w11, w12, w13, w14, w15]))] sz) := by
  refine ofN (by decide) (Nat.le_of_ble_eq_true rfl) rfl ?_
  intro p e s m args below meth c A ls hAe hsz hx hb hml hr hlocks hin hown hE hP hD hA hS hl
  have hown : s.vm.findClass RX9 = some m.cls := hown
  refine lv_iload_n hx hb dX9_timeOf_0 rfl (lv_at hl 1 rfl) ?_
  refine lv_iconst (v := 0) hx hb dX9_timeOf_1 (by decide) ?_
  refine lv_sipush (v := 30000) hx hb dX9_timeOf_2 (by decide) ?_
  refine g0_v (rS (rest := []) hx hb hml hown hE hP hD (c1699_X9_requireRange l g x2 h3 h4 s.heap.size) (kS_X9_requireRange hE (e636 hE) rfl rfl ⟨(Nat.le_of_ble_eq_true rfl), (Nat.le_of_ble_eq_true rfl)⟩) [] rfl (by decide) rfl hl.1 rfl (lv_room (Nat.le_of_ble_eq_true rfl)) dX9_timeOf_5 ⟨(Nat.le_of_ble_eq_true rfl), (Nat.le_of_ble_eq_true rfl)⟩) hP hD hS hA (fun u9 H locs hP hS => ?_)
  refine lv_aload_n hx hb dX9_timeOf_8 rfl (lv_at hl 0 rfl) ?_
  refine gf_RX9_12 hx hb hown hE hP 6 rfl rfl dX9_timeOf_9 ?_
  refine g_r (wr := [(q40, .inl (g.2 0, 10, .inl f41)), (q36, .inl (g.2 0, 10, .inl f37)), (q31, .inr (9, [.ref q36, .ref q40, .int 1, w35])), (q23, .inr (8, [w24, .ref q31, w26, w27, w28, w29, w30])), (q1, .inr (11, [.ref q16, w6, w7, w8, w9, w10, w11, w12, w13, w14, w15]))]) (rV (rest := []) hx hb hml hown hE hP hD 5 rfl rfl (c71_X8_current l g q16 q20 q23 w19 f21 (hf22) H.size) (kV_X8_current hE (e290 hE) rfl rfl ⟨(Nat.le_of_ble_eq_true rfl), (Nat.le_of_ble_eq_true rfl)⟩) [4, 5] rfl (by decide) rfl hl.1 rfl (lv_room (Nat.le_of_ble_eq_true rfl)) dX9_timeOf_12 ⟨(Nat.le_of_ble_eq_true rfl), (Nat.le_of_ble_eq_true rfl)⟩) hP hD hS hA [4, 5] [0, 1, 2, 3, 6] rfl rfl (by decide) (by decide) (fun u2 H locs hP hD hS => ?_)
  have hP : va_P g.1 vwCl [(q40, .inl (g.2 0, 10, .inl f41)), (q36, .inl (g.2 0, 10, .inl f37)), (q31, .inr (9, [.ref q36, .ref q40, .int 1, w35])), (q23, .inr (8, [w24, .ref q31, w26, w27, w28, w29, w30])), (q1, .inr (11, [.ref q16, w6, w7, w8, w9, w10, w11, w12, w13, w14, w15])), (q20, .inl (g.2 3, 10, .inr (.inr (.inr (.inr f21))))), (q16, .inr (10, [.ref q20, .int 0, w19]))] H := hP
  have hD : va_D A [(q40, .inl (g.2 0, 10, .inl f41)), (q36, .inl (g.2 0, 10, .inl f37)), (q31, .inr (9, [.ref q36, .ref q40, .int 1, w35])), (q23, .inr (8, [w24, .ref q31, w26, w27, w28, w29, w30])), (q1, .inr (11, [.ref q16, w6, w7, w8, w9, w10, w11, w12, w13, w14, w15])), (q20, .inl (g.2 3, 10, .inr (.inr (.inr (.inr f21))))), (q16, .inr (10, [.ref q20, .int 0, w19]))] := hD
  refine gf_RX9_193 hx hb hown hE hP 3 rfl rfl dX9_timeOf_15 ?_
  refine lv_astore_n (lv' := [(3, .ref q31), (0, .ref q1), (1, .int x2), (2, .int 0)]) hx hb dX9_timeOf_18 rfl hl (by decide) rfl (fun ls hl => ?_)
  refine lv_iload_n hx hb dX9_timeOf_19 rfl (lv_at hl 3 rfl) ?_
  refine lv_if_eq (tgt := 31) hx hb dX9_timeOf_20 (by decide) (fun _ => ?_) (fun h => absurd (by decide) h)
  refine lv_aload_n hx hb dX9_timeOf_31 rfl (lv_at hl 0 rfl) ?_
  refine lv_iload_n hx hb dX9_timeOf_32 rfl (lv_at hl 2 rfl) ?_
  refine g_i (wr := [(q23, .inr (8, [w24, .ref q31, w26, w27, w28, w29, w30])), (q1, .inr (11, [.ref q16, w6, w7, w8, w9, w10, w11, w12, w13, w14, w15])), (q20, .inl (g.2 3, 10, .inr (.inr (.inr (.inr f21))))), (q16, .inr (10, [.ref q20, .int 0, w19]))]) (rV (rest := []) hx hb hml hown hE hP hD 2 rfl rfl (c1787_X7_swungTime l g q31 q36 q40 x2 w35 f37 f41 (hf38) (hf42) h39 h43 H.size) (kV_X7_swungTime hE (e967 hE) rfl rfl ⟨(Nat.le_of_ble_eq_true rfl), (Nat.le_of_ble_eq_true rfl)⟩) [0, 1, 2] rfl (by decide) rfl hl.1 rfl (lv_room (Nat.le_of_ble_eq_true rfl)) dX9_timeOf_33 ⟨(Nat.le_of_ble_eq_true rfl), (Nat.le_of_ble_eq_true rfl)⟩) hP hD hS hA [0, 1, 2] [3, 4, 5, 6] rfl rfl (by decide) (by decide) (fun u3 H locs hP hD hS => ?_)
  have hP : va_P g.1 vwCl [(q23, .inr (8, [w24, .ref q31, w26, w27, w28, w29, w30])), (q1, .inr (11, [.ref q16, w6, w7, w8, w9, w10, w11, w12, w13, w14, w15])), (q20, .inl (g.2 3, 10, .inr (.inr (.inr (.inr f21))))), (q16, .inr (10, [.ref q20, .int 0, w19])), (q36, .inl (g.2 0, 10, .inl f37)), (q40, .inl (g.2 0, 10, .inl f41)), (q31, .inr (9, [.ref q36, .ref q40, .int 1, w35]))] H := hP
  have hD : va_D A [(q23, .inr (8, [w24, .ref q31, w26, w27, w28, w29, w30])), (q1, .inr (11, [.ref q16, w6, w7, w8, w9, w10, w11, w12, w13, w14, w15])), (q20, .inl (g.2 3, 10, .inr (.inr (.inr (.inr f21))))), (q16, .inr (10, [.ref q20, .int 0, w19])), (q36, .inl (g.2 0, 10, .inl f37)), (q40, .inl (g.2 0, 10, .inl f41)), (q31, .inr (9, [.ref q36, .ref q40, .int 1, w35]))] := hD
  exact x_zret hx hb hr rfl rfl hlocks hP hD hS hAe hsz (Nat.le_of_ble_eq_true rfl) (Nat.le_of_ble_eq_true rfl) (fun _ => 0) [0, 1, 2, 3, 4, 5, 6] (by decide) rfl dX9_timeOf_36

set_option maxHeartbeats 4000000 in
set_option maxRecDepth 100000 in
theorem c1789_L_timeOf (l : Launch) (g : gG) (hlx : l.stackTraces = false) (q1 q3 q17 q21 q24 q32 q37 q41 : Nat) (x2 : Int32) (w7 w8 w9 w10 w11 w12 w13 w14 w15 w16 w20 w25 w27 w28 w29 w30 w31 w36 : Value) (f22 : Nat → Option Nat) (f38 : Nat → Int32) (f42 : Nat → Int32) (f45 : Nat → Int64) (hf23 : f22 0 = some q24) (hf39 : f38 0 = 0) (hf43 : f42 0 = 100) (h4 : (0 : Int32) ≤ x2) (h5 : x2 ≤ 30000) (h40 : (0 : Int32) < x2) (h44 : ¬ (x2 &&& 1) = 1) (sz : Nat) : Met l yL_timeOf [Cond.codeWith yL_timeOf cL_timeOf 5 (some .int) [(0, 10, 13, 15)]] ({ frames := 4, cells := 0, slots := 0, locals := 91 } : Room) (va_Pc [.ref q1, .int x2, .int 0, .ref q3] (PZ g sz [(q3, .inl (g.2 1, 1, .inr (.inl f45))), (q41, .inl (g.2 0, 10, .inl f42)), (q37, .inl (g.2 0, 10, .inl f38)), (q32, .inr (9, [.ref q37, .ref q41, .int 1, w36])), (q24, .inr (8, [w25, .ref q32, w27, w28, w29, w30, w31])), (q21, .inl (g.2 3, 10, .inr (.inr (.inr (.inr f22))))), (q17, .inr (10, [.ref q21, .int 0, w20])), (q1, .inr (11, [.ref q17, w7, w8, w9, w10, w11, w12, w13, w14, w15, w16]))])) (QI g [(q3, .inl (g.2 1, 1, .inr (.inl f45))), (q41, .inl (g.2 0, 10, .inl f42)), (q37, .inl (g.2 0, 10, .inl f38)), (q32, .inr (9, [.ref q37, .ref q41, .int 1, w36])), (q24, .inr (8, [w25, .ref q32, w27, w28, w29, w30, w31])), (q21, .inl (g.2 3, 10, .inr (.inr (.inr (.inr f22))))), (q17, .inr (10, [.ref q21, .int 0, w20])), (q1, .inr (11, [.ref q17, w7, w8, w9, w10, w11, w12, w13, w14, w15, w16]))] sz 0 (fun _ => [(q3, .inl (g.2 1, 1, .inr (.inl (vp_updL f45 0 ((x2 * 100)).toInt64))))])) 0 0 (va_A [(q3, .inl (g.2 1, 1, .inr (.inl f45))), (q41, .inl (g.2 0, 10, .inl f42)), (q37, .inl (g.2 0, 10, .inl f38)), (q32, .inr (9, [.ref q37, .ref q41, .int 1, w36])), (q24, .inr (8, [w25, .ref q32, w27, w28, w29, w30, w31])), (q21, .inl (g.2 3, 10, .inr (.inr (.inr (.inr f22))))), (q17, .inr (10, [.ref q21, .int 0, w20])), (q1, .inr (11, [.ref q17, w7, w8, w9, w10, w11, w12, w13, w14, w15, w16]))] sz) := by
  refine ofH (by decide) (Nat.le_of_ble_eq_true rfl) rfl ?_
  intro p e s m args below meth c A ls hAe hsz hx hb hml hr hlocks hin hown hE hP hD hA hS hl htb hz
  have hown : s.vm.findClass RL = some m.cls := hown
  refine lv_aload_n hx hb dL_timeOf_0 rfl (lv_at hl 3 rfl) ?_
  refine lv_iconst (v := 0) hx hb dL_timeOf_1 (by decide) ?_
  refine lv_aload_n hx hb dL_timeOf_2 rfl (lv_at hl 0 rfl) ?_
  refine lv_iload_n hx hb dL_timeOf_3 rfl (lv_at hl 1 rfl) ?_
  refine lv_iload_n hx hb dL_timeOf_4 rfl (lv_at hl 2 rfl) ?_
  refine g_i (wr := [(q3, .inl (g.2 1, 1, .inr (.inl f45)))]) (rV (rest := [.int 0, .ref q3]) hx hb hml hown hE hP hD 7 rfl rfl (c1788_X9_timeOf l g q1 q17 q21 q24 q32 q37 q41 x2 w7 w8 w9 w10 w11 w12 w13 w14 w15 w16 w20 w25 w27 w28 w29 w30 w31 w36 f22 f38 f42 (hf23) (hf39) (hf43) h4 h5 h40 h44 s.heap.size) (kV_X9_timeOf hE (e962 hE) rfl rfl ⟨(Nat.le_of_ble_eq_true rfl), (Nat.le_of_ble_eq_true rfl)⟩) [1, 2, 3, 4, 5, 6, 7] rfl (by decide) rfl hl.1 rfl (lv_room (Nat.le_of_ble_eq_true rfl)) dL_timeOf_5 ⟨(Nat.le_of_ble_eq_true rfl), (Nat.le_of_ble_eq_true rfl)⟩) hP hD hS hA [1, 2, 3, 4, 5, 6, 7] [0] rfl rfl (by decide) (by decide) (fun u1 H locs hP hD hS => ?_)
  have hP : va_P g.1 vwCl [(q3, .inl (g.2 1, 1, .inr (.inl f45))), (q24, .inr (8, [w25, .ref q32, w27, w28, w29, w30, w31])), (q1, .inr (11, [.ref q17, w7, w8, w9, w10, w11, w12, w13, w14, w15, w16])), (q21, .inl (g.2 3, 10, .inr (.inr (.inr (.inr f22))))), (q17, .inr (10, [.ref q21, .int 0, w20])), (q37, .inl (g.2 0, 10, .inl f38)), (q41, .inl (g.2 0, 10, .inl f42)), (q32, .inr (9, [.ref q37, .ref q41, .int 1, w36]))] H := hP
  have hD : va_D A [(q3, .inl (g.2 1, 1, .inr (.inl f45))), (q24, .inr (8, [w25, .ref q32, w27, w28, w29, w30, w31])), (q1, .inr (11, [.ref q17, w7, w8, w9, w10, w11, w12, w13, w14, w15, w16])), (q21, .inl (g.2 3, 10, .inr (.inr (.inr (.inr f22))))), (q17, .inr (10, [.ref q21, .int 0, w20])), (q37, .inl (g.2 0, 10, .inl f38)), (q41, .inl (g.2 0, 10, .inl f42)), (q32, .inr (9, [.ref q37, .ref q41, .int 1, w36]))] := hD
  refine lv_i2l (v := ((x2 * 100)).toInt64) hx hb dL_timeOf_8 rfl ?_
  refine x_last (ws' := [(q3, .inl (g.2 1, 1, .inr (.inl (vp_updL f45 0 ((x2 * 100)).toInt64)))), (q24, .inr (8, [w25, .ref q32, w27, w28, w29, w30, w31])), (q1, .inr (11, [.ref q17, w7, w8, w9, w10, w11, w12, w13, w14, w15, w16])), (q21, .inl (g.2 3, 10, .inr (.inr (.inr (.inr f22))))), (q17, .inr (10, [.ref q21, .int 0, w20])), (q37, .inl (g.2 0, 10, .inl f38)), (q41, .inl (g.2 0, 10, .inl f42)), (q32, .inr (9, [.ref q37, .ref q41, .int 1, w36]))]) hx hb hE hP hD hS 0 rfl 0 (x_in (by decide)) (by decide) dL_timeOf_9 rfl (fun H locs hP hD hS => ?_)
  refine lv_goto (tgt := 17) hx hb dL_timeOf_10 (by decide) ?_
  refine lv_iconst (v := 0) hx hb dL_timeOf_17 (by decide) ?_
  exact x_zret hx hb hr rfl rfl hlocks hP hD hS hAe hsz (Nat.le_of_ble_eq_true rfl) (Nat.le_of_ble_eq_true rfl) (fun _ => 0) [0] (by decide) rfl dL_timeOf_18

set_option maxHeartbeats 4000000 in
set_option maxRecDepth 100000 in
theorem c1790_X10_time (l : Launch) (g : gG) (q1 q40 : Nat) (x2 : Int32) (w4 w5 w6 w7 w8 w9 w10 w11 w12 w13 w14 w15 w16 w17 w18 w19 w20 w21 w22 w23 w24 w25 w26 w27 w28 w29 w30 w31 w32 w33 w34 w35 w36 w37 w38 w39 : Value) (f41 : Nat → Int32) (hf42 : f41 453 = 1) (hf43 : f41 454 = 0) (hf45 : f41 455 = 100) (hf47 : f41 494 = 0) (h44 : (0 : Int32) < x2) (h46 : ¬ (x2 - ((x2 / 2) * 2)) = 0) (sz : Nat) : Met l yX10_time [Cond.code yX10_time cX10_time 7 (some .int)] ({ frames := 1, cells := 0, slots := 0, locals := 24 } : Room) (va_Pc [.ref q1, .int x2, .int 0] (PX g sz [(q40, .inl (g.2 0, 497, .inl f41)), (q1, .inr (12, [.ref q40, w4, w5, w6, w7, w8, w9, w10, w11, w12, w13, w14, w15, w16, w17, w18, w19, w20, w21, w22, w23, w24, w25, w26, w27, w28, w29, w30, w31, w32, w33, w34, w35, w36, w37, w38, w39]))])) (QI g [(q40, .inl (g.2 0, 497, .inl f41)), (q1, .inr (12, [.ref q40, w4, w5, w6, w7, w8, w9, w10, w11, w12, w13, w14, w15, w16, w17, w18, w19, w20, w21, w22, w23, w24, w25, w26, w27, w28, w29, w30, w31, w32, w33, w34, w35, w36, w37, w38, w39]))] sz (x2 * 100) (fun _ => [(q40, .inl (g.2 0, 497, .inl f41)), (q1, .inr (12, [.ref q40, w4, w5, w6, w7, w8, w9, w10, w11, w12, w13, w14, w15, w16, w17, w18, w19, w20, w21, w22, w23, w24, w25, w26, w27, w28, w29, w30, w31, w32, w33, w34, w35, w36, w37, w38, w39]))])) 0 0 (va_A [(q40, .inl (g.2 0, 497, .inl f41)), (q1, .inr (12, [.ref q40, w4, w5, w6, w7, w8, w9, w10, w11, w12, w13, w14, w15, w16, w17, w18, w19, w20, w21, w22, w23, w24, w25, w26, w27, w28, w29, w30, w31, w32, w33, w34, w35, w36, w37, w38, w39]))] sz) := by
  refine ofN (by decide) (Nat.le_of_ble_eq_true rfl) rfl ?_
  intro p e s m args below meth c A ls hAe hsz hx hb hml hr hlocks hin hown hE hP hD hA hS hl
  have hown : s.vm.findClass RX10 = some m.cls := hown
  refine lv_iconst (v := 0) hx hb dX10_time_0 (by decide) ?_
  refine lv_istore_n (lv' := [(3, .int 0), (0, .ref q1), (1, .int x2), (2, .int 0)]) hx hb dX10_time_1 rfl hl (by decide) rfl (fun ls hl => ?_)
  refine lv_iconst (v := 0) hx hb dX10_time_2 (by decide) ?_
  refine lv_istore (lv' := [(4, .int 0), (3, .int 0), (0, .ref q1), (1, .int x2), (2, .int 0)]) hx hb dX10_time_3 hl (by decide) rfl (fun ls hl => ?_)
  refine lv_iload hx hb dX10_time_5 (lv_at hl 0 rfl) ?_
  refine lv_aload_n hx hb dX10_time_7 rfl (lv_at hl 2 rfl) ?_
  refine gf_RX10_9 hx hb hown hE hP 1 rfl rfl dX10_time_8 ?_
  refine lv_sipush (v := 453) hx hb dX10_time_11 (by decide) ?_
  refine x_iald (v := 1) hx hb hE hP 0 rfl 453 (x_in (by decide)) (by decide) hf42 dX10_time_14 ?_
  refine lv_icmp_ge (tgt := 107) hx hb dX10_time_15 (by decide) (fun h => absurd h (by decide)) (fun _ => ?_)
  refine lv_aload_n hx hb dX10_time_18 rfl (lv_at hl 2 rfl) ?_
  refine gf_RX10_9 hx hb hown hE hP 1 rfl rfl dX10_time_19 ?_
  refine lv_sipush (v := 454) hx hb dX10_time_22 (by decide) ?_
  refine lv_iconst (v := 2) hx hb dX10_time_25 (by decide) ?_
  refine lv_iload hx hb dX10_time_26 (lv_at hl 0 rfl) ?_
  refine x_imul (v := 0) hx hb dX10_time_28 (by decide) ?_
  refine x_iadd (v := 454) hx hb dX10_time_29 (by decide) ?_
  refine x_iald (v := 0) hx hb hE hP 0 rfl 454 (x_in (by decide)) (by decide) hf43 dX10_time_30 ?_
  refine lv_istore (lv' := [(5, .int 0), (4, .int 0), (3, .int 0), (0, .ref q1), (1, .int x2), (2, .int 0)]) hx hb dX10_time_31 hl (by decide) rfl (fun ls hl => ?_)
  refine lv_iload hx hb dX10_time_33 (lv_at hl 1 rfl) ?_
  refine lv_iconst (v := 1) hx hb dX10_time_35 (by decide) ?_
  refine x_iadd (v := 1) hx hb dX10_time_36 (by decide) ?_
  refine lv_aload_n hx hb dX10_time_37 rfl (lv_at hl 3 rfl) ?_
  refine gf_RX10_9 hx hb hown hE hP 1 rfl rfl dX10_time_38 ?_
  refine lv_sipush (v := 453) hx hb dX10_time_41 (by decide) ?_
  refine x_iald (v := 1) hx hb hE hP 0 rfl 453 (x_in (by decide)) (by decide) hf42 dX10_time_44 ?_
  refine lv_icmp_ge (tgt := 70) hx hb dX10_time_45 (by decide) (fun _ => ?_) (fun h => absurd (by decide) h)
  refine lv_iload_n hx hb dX10_time_70 rfl (lv_at hl 4 rfl) ?_
  refine lv_istore (lv' := [(6, .int x2), (5, .int 0), (4, .int 0), (3, .int 0), (0, .ref q1), (1, .int x2), (2, .int 0)]) hx hb dX10_time_71 hl (by decide) rfl (fun ls hl => ?_)
  refine lv_iload_n hx hb dX10_time_73 rfl (lv_at hl 3 rfl) ?_
  refine lv_iconst (v := 0) hx hb dX10_time_74 (by decide) ?_
  refine lv_iload hx hb dX10_time_75 (lv_at hl 0 rfl) ?_
  refine lv_iload hx hb dX10_time_77 (lv_at hl 1 rfl) ?_
  refine x_isub (v := x2) hx hb dX10_time_79 (Int32.sub_zero _) ?_
  refine x_mmax (v := x2) hx hb (by rw [hml]; exact hl.1.symm) hown (e1506 hE) (e165 hE) (e9 hE) (e166 hE) (Nat.le_of_ble_eq_true rfl) (Nat.le_of_ble_eq_true rfl) (Nat.le_of_ble_eq_true rfl) (Nat.le_of_ble_eq_true rfl) (if_pos h44) dX10_time_80 ?_
  refine lv_aload_n hx hb dX10_time_83 rfl (lv_at hl 4 rfl) ?_
  refine gf_RX10_9 hx hb hown hE hP 1 rfl rfl dX10_time_84 ?_
  refine lv_sipush (v := 454) hx hb dX10_time_87 (by decide) ?_
  refine lv_iconst (v := 2) hx hb dX10_time_90 (by decide) ?_
  refine lv_iload hx hb dX10_time_91 (lv_at hl 2 rfl) ?_
  refine x_imul (v := 0) hx hb dX10_time_93 (by decide) ?_
  refine x_iadd (v := 454) hx hb dX10_time_94 (by decide) ?_
  refine lv_iconst (v := 1) hx hb dX10_time_95 (by decide) ?_
  refine x_iadd (v := 455) hx hb dX10_time_96 (by decide) ?_
  refine x_iald (v := 100) hx hb hE hP 0 rfl 455 (x_in (by decide)) (by decide) hf45 dX10_time_97 ?_
  refine x_imul (v := (x2 * 100)) hx hb dX10_time_98 rfl ?_
  refine x_iadd (v := (x2 * 100)) hx hb dX10_time_99 (Int32.zero_add _) ?_
  refine lv_istore_n (lv' := [(3, .int (x2 * 100)), (6, .int x2), (5, .int 0), (4, .int 0), (0, .ref q1), (1, .int x2), (2, .int 0)]) hx hb dX10_time_100 rfl hl (by decide) rfl (fun ls hl => ?_)
  refine lv_iinc (v := 1) (lv' := [(4, .int 1), (3, .int (x2 * 100)), (6, .int x2), (5, .int 0), (0, .ref q1), (1, .int x2), (2, .int 0)]) hx hb dX10_time_101 hl (k := 3) rfl (by decide) (by decide) rfl (fun ls hl => ?_)
  refine lv_goto (tgt := 5) hx hb dX10_time_104 (by decide) ?_
  refine lv_iload hx hb dX10_time_5 (lv_at hl 0 rfl) ?_
  refine lv_aload_n hx hb dX10_time_7 rfl (lv_at hl 4 rfl) ?_
  refine gf_RX10_9 hx hb hown hE hP 1 rfl rfl dX10_time_8 ?_
  refine lv_sipush (v := 453) hx hb dX10_time_11 (by decide) ?_
  refine x_iald (v := 1) hx hb hE hP 0 rfl 453 (x_in (by decide)) (by decide) hf42 dX10_time_14 ?_
  refine lv_icmp_ge (tgt := 107) hx hb dX10_time_15 (by decide) (fun _ => ?_) (fun h => absurd (by decide) h)
  refine lv_iload_n hx hb dX10_time_107 rfl (lv_at hl 6 rfl) ?_
  refine lv_if_ne (tgt := 117) hx hb dX10_time_108 (by decide) (fun h => absurd h (by decide)) (fun _ => ?_)
  refine lv_iload_n hx hb dX10_time_111 rfl (lv_at hl 5 rfl) ?_
  refine lv_iconst (v := 2) hx hb dX10_time_112 (by decide) ?_
  refine lv_irem hx hb dX10_time_113 (by decide) ?_
  refine x_top (v := (x2 - ((x2 / 2) * 2))) rfl ?_
  refine lv_if_ne (tgt := 121) hx hb dX10_time_114 (by decide) (fun _ => ?_) (fun h => absurd h h46)
  refine lv_iload_n hx hb dX10_time_121 rfl (lv_at hl 1 rfl) ?_
  refine lv_aload_n hx hb dX10_time_122 rfl (lv_at hl 4 rfl) ?_
  refine gf_RX10_9 hx hb hown hE hP 1 rfl rfl dX10_time_123 ?_
  refine lv_sipush (v := 494) hx hb dX10_time_126 (by decide) ?_
  refine x_iald (v := 0) hx hb hE hP 0 rfl 494 (x_in (by decide)) (by decide) hf47 dX10_time_129 ?_
  refine lv_aload_n hx hb dX10_time_130 rfl (lv_at hl 4 rfl) ?_
  refine lv_iload_n hx hb dX10_time_131 rfl (lv_at hl 5 rfl) ?_
  refine g_i (wr := []) (rV (rest := [.int 0, .int (x2 * 100)]) hx hb hml hown hE hP hD 1 rfl rfl (c1746_X10_tempoAt l g q1 q40 x2 w4 w5 w6 w7 w8 w9 w10 w11 w12 w13 w14 w15 w16 w17 w18 w19 w20 w21 w22 w23 w24 w25 w26 w27 w28 w29 w30 w31 w32 w33 w34 w35 w36 w37 w38 w39 f41 (hf42) (hf43) (hf45) (j_ltle h44 (by decide)) s.heap.size) (kV_X10_tempoAt hE (e1555 hE) rfl rfl ⟨(Nat.le_of_ble_eq_true rfl), (Nat.le_of_ble_eq_true rfl)⟩) [0, 1] rfl (by decide) rfl hl.1 rfl (lv_room (Nat.le_of_ble_eq_true rfl)) dX10_time_132 ⟨(Nat.le_of_ble_eq_true rfl), (Nat.le_of_ble_eq_true rfl)⟩) hP hD hS hA [0, 1] [] rfl rfl (by decide) (by decide) (fun u1 H locs hP hD hS => ?_)
  have hP : va_P g.1 vwCl [(q40, .inl (g.2 0, 497, .inl f41)), (q1, .inr (12, [.ref q40, w4, w5, w6, w7, w8, w9, w10, w11, w12, w13, w14, w15, w16, w17, w18, w19, w20, w21, w22, w23, w24, w25, w26, w27, w28, w29, w30, w31, w32, w33, w34, w35, w36, w37, w38, w39]))] H := hP
  have hD : va_D A [(q40, .inl (g.2 0, 497, .inl f41)), (q1, .inr (12, [.ref q40, w4, w5, w6, w7, w8, w9, w10, w11, w12, w13, w14, w15, w16, w17, w18, w19, w20, w21, w22, w23, w24, w25, w26, w27, w28, w29, w30, w31, w32, w33, w34, w35, w36, w37, w38, w39]))] := hD
  refine x_imul (v := 0) hx hb dX10_time_135 (by decide) ?_
  refine lv_bipush (v := 100) hx hb dX10_time_136 (by decide) ?_
  refine lv_idiv hx hb dX10_time_138 (by decide) ?_
  refine x_top (v := 0) (by decide) ?_
  refine x_iadd (v := (x2 * 100)) hx hb dX10_time_139 (Int32.add_zero _) ?_
  exact x_zret hx hb hr rfl rfl hlocks hP hD hS hAe hsz (Nat.le_of_ble_eq_true rfl) (Nat.le_of_ble_eq_true rfl) (fun _ => 0) [0, 1] (by decide) rfl dX10_time_140

set_option maxHeartbeats 4000000 in
set_option maxRecDepth 100000 in
theorem c1791_X10_timeOf (l : Launch) (g : gG) (q1 q42 : Nat) (x2 : Int32) (w6 w7 w8 w9 w10 w11 w12 w13 w14 w15 w16 w17 w18 w19 w20 w21 w22 w23 w24 w25 w26 w27 w28 w29 w30 w31 w32 w33 w34 w35 w36 w37 w38 w39 w40 w41 : Value) (f43 : Nat → Int32) (hf44 : f43 453 = 1) (hf45 : f43 454 = 0) (hf47 : f43 455 = 100) (hf49 : f43 494 = 0) (h3 : (0 : Int32) ≤ x2) (h4 : x2 ≤ 30000) (h46 : (0 : Int32) < x2) (h48 : ¬ (x2 - ((x2 / 2) * 2)) = 0) (sz : Nat) : Met l yX10_timeOf [Cond.code yX10_timeOf cX10_timeOf 3 (some .int)] ({ frames := 2, cells := 0, slots := 0, locals := 50 } : Room) (va_Pc [.ref q1, .int x2, .int 0] (PX g sz [(q42, .inl (g.2 0, 497, .inl f43)), (q1, .inr (12, [.ref q42, w6, w7, w8, w9, w10, w11, w12, w13, w14, w15, w16, w17, w18, w19, w20, w21, w22, w23, w24, w25, w26, w27, w28, w29, w30, w31, w32, w33, w34, w35, w36, w37, w38, w39, w40, w41]))])) (QI g [(q42, .inl (g.2 0, 497, .inl f43)), (q1, .inr (12, [.ref q42, w6, w7, w8, w9, w10, w11, w12, w13, w14, w15, w16, w17, w18, w19, w20, w21, w22, w23, w24, w25, w26, w27, w28, w29, w30, w31, w32, w33, w34, w35, w36, w37, w38, w39, w40, w41]))] sz (x2 * 100) (fun _ => [(q1, .inr (12, [.ref q42, w6, w7, w8, w9, w10, .int 0, w12, w13, w14, w15, w16, w17, w18, w19, w20, w21, w22, w23, w24, w25, w26, w27, w28, w29, w30, w31, w32, w33, w34, w35, w36, w37, w38, w39, w40, w41]))])) 0 0 (va_A [(q42, .inl (g.2 0, 497, .inl f43)), (q1, .inr (12, [.ref q42, w6, w7, w8, w9, w10, w11, w12, w13, w14, w15, w16, w17, w18, w19, w20, w21, w22, w23, w24, w25, w26, w27, w28, w29, w30, w31, w32, w33, w34, w35, w36, w37, w38, w39, w40, w41]))] sz) := by
  refine ofN (by decide) (Nat.le_of_ble_eq_true rfl) rfl ?_
  intro p e s m args below meth c A ls hAe hsz hx hb hml hr hlocks hin hown hE hP hD hA hS hl
  have hown : s.vm.findClass RX10 = some m.cls := hown
  refine lv_aload_n hx hb dX10_timeOf_0 rfl (lv_at hl 0 rfl) ?_
  refine lv_iload_n hx hb dX10_timeOf_1 rfl (lv_at hl 1 rfl) ?_
  refine lv_iconst (v := 0) hx hb dX10_timeOf_2 (by decide) ?_
  refine lv_sipush (v := 30000) hx hb dX10_timeOf_3 (by decide) ?_
  refine g0_i (rS (rest := [.ref q1]) hx hb hml hown hE hP hD (c1703_X10_in l g x2 h3 h4 s.heap.size) (kS_X10_in hE (e1431 hE) rfl rfl ⟨(Nat.le_of_ble_eq_true rfl), (Nat.le_of_ble_eq_true rfl)⟩) [] rfl (by decide) rfl hl.1 rfl (lv_room (Nat.le_of_ble_eq_true rfl)) dX10_timeOf_6 ⟨(Nat.le_of_ble_eq_true rfl), (Nat.le_of_ble_eq_true rfl)⟩) hP hD hS hA (fun u9 H locs hP hS => ?_)
  refine lv_if_eq (tgt := 16) hx hb dX10_timeOf_9 (by decide) (fun h => absurd h (by decide)) (fun _ => ?_)
  refine lv_iconst (v := 0) hx hb dX10_timeOf_12 (by decide) ?_
  refine lv_goto (tgt := 17) hx hb dX10_timeOf_13 (by decide) ?_
  refine pf_RX10_86 (ws' := [(q42, .inl (g.2 0, 497, .inl f43)), (q1, .inr (12, [.ref q42, w6, w7, w8, w9, w10, .int 0, w12, w13, w14, w15, w16, w17, w18, w19, w20, w21, w22, w23, w24, w25, w26, w27, w28, w29, w30, w31, w32, w33, w34, w35, w36, w37, w38, w39, w40, w41]))]) hx hb hown hE hP hD hS 1 rfl rfl rfl (Nat.le_of_ble_eq_true rfl) dX10_timeOf_17 rfl (fun H locs hP hD hS => ?_)
  refine lv_aload_n hx hb dX10_timeOf_20 rfl (lv_at hl 0 rfl) ?_
  refine gf_RX10_86 hx hb hown hE hP 1 rfl rfl dX10_timeOf_21 ?_
  refine lv_if_le (tgt := 31) hx hb dX10_timeOf_24 (by decide) (fun _ => ?_) (fun h => absurd (by decide) h)
  refine lv_aload_n hx hb dX10_timeOf_31 rfl (lv_at hl 0 rfl) ?_
  refine lv_iload_n hx hb dX10_timeOf_32 rfl (lv_at hl 1 rfl) ?_
  refine lv_iload_n hx hb dX10_timeOf_33 rfl (lv_at hl 2 rfl) ?_
  refine g_i (wr := []) (rV (rest := []) hx hb hml hown hE hP hD 1 rfl rfl (c1790_X10_time l g q1 q42 x2 w6 w7 w8 w9 w10 (.int 0) w12 w13 w14 w15 w16 w17 w18 w19 w20 w21 w22 w23 w24 w25 w26 w27 w28 w29 w30 w31 w32 w33 w34 w35 w36 w37 w38 w39 w40 w41 f43 (hf44) (hf45) (hf47) (hf49) h46 h48 H.size) (kV_X10_time hE (e1551 hE) rfl rfl ⟨(Nat.le_of_ble_eq_true rfl), (Nat.le_of_ble_eq_true rfl)⟩) [0, 1] rfl (by decide) rfl hl.1 rfl (lv_room (Nat.le_of_ble_eq_true rfl)) dX10_timeOf_34 ⟨(Nat.le_of_ble_eq_true rfl), (Nat.le_of_ble_eq_true rfl)⟩) hP hD hS hA [0, 1] [] rfl rfl (by decide) (by decide) (fun u2 H locs hP hD hS => ?_)
  have hP : va_P g.1 vwCl [(q42, .inl (g.2 0, 497, .inl f43)), (q1, .inr (12, [.ref q42, w6, w7, w8, w9, w10, .int 0, w12, w13, w14, w15, w16, w17, w18, w19, w20, w21, w22, w23, w24, w25, w26, w27, w28, w29, w30, w31, w32, w33, w34, w35, w36, w37, w38, w39, w40, w41]))] H := hP
  have hD : va_D A [(q42, .inl (g.2 0, 497, .inl f43)), (q1, .inr (12, [.ref q42, w6, w7, w8, w9, w10, .int 0, w12, w13, w14, w15, w16, w17, w18, w19, w20, w21, w22, w23, w24, w25, w26, w27, w28, w29, w30, w31, w32, w33, w34, w35, w36, w37, w38, w39, w40, w41]))] := hD
  exact x_zret hx hb hr rfl rfl hlocks hP hD hS hAe hsz (Nat.le_of_ble_eq_true rfl) (Nat.le_of_ble_eq_true rfl) (fun _ => 0) [1] (by decide) rfl dX10_timeOf_37

set_option maxHeartbeats 4000000 in
set_option maxRecDepth 100000 in
theorem c1792_X10_time (l : Launch) (g : gG) (q1 q40 : Nat) (x2 : Int32) (w4 w5 w6 w7 w8 w9 w10 w11 w12 w13 w14 w15 w16 w17 w18 w19 w20 w21 w22 w23 w24 w25 w26 w27 w28 w29 w30 w31 w32 w33 w34 w35 w36 w37 w38 w39 : Value) (f41 : Nat → Int32) (hf42 : f41 453 = 1) (hf43 : f41 454 = 0) (hf45 : f41 455 = 100) (h44 : (0 : Int32) < x2) (h46 : (x2 - ((x2 / 2) * 2)) = 0) (sz : Nat) : Met l yX10_time [Cond.code yX10_time cX10_time 7 (some .int)] ({ frames := 1, cells := 0, slots := 0, locals := 24 } : Room) (va_Pc [.ref q1, .int x2, .int 0] (PX g sz [(q40, .inl (g.2 0, 497, .inl f41)), (q1, .inr (12, [.ref q40, w4, w5, w6, w7, w8, w9, w10, w11, w12, w13, w14, w15, w16, w17, w18, w19, w20, w21, w22, w23, w24, w25, w26, w27, w28, w29, w30, w31, w32, w33, w34, w35, w36, w37, w38, w39]))])) (QI g [(q40, .inl (g.2 0, 497, .inl f41)), (q1, .inr (12, [.ref q40, w4, w5, w6, w7, w8, w9, w10, w11, w12, w13, w14, w15, w16, w17, w18, w19, w20, w21, w22, w23, w24, w25, w26, w27, w28, w29, w30, w31, w32, w33, w34, w35, w36, w37, w38, w39]))] sz (x2 * 100) (fun _ => [(q40, .inl (g.2 0, 497, .inl f41)), (q1, .inr (12, [.ref q40, w4, w5, w6, w7, w8, w9, w10, w11, w12, w13, w14, w15, w16, w17, w18, w19, w20, w21, w22, w23, w24, w25, w26, w27, w28, w29, w30, w31, w32, w33, w34, w35, w36, w37, w38, w39]))])) 0 0 (va_A [(q40, .inl (g.2 0, 497, .inl f41)), (q1, .inr (12, [.ref q40, w4, w5, w6, w7, w8, w9, w10, w11, w12, w13, w14, w15, w16, w17, w18, w19, w20, w21, w22, w23, w24, w25, w26, w27, w28, w29, w30, w31, w32, w33, w34, w35, w36, w37, w38, w39]))] sz) := by
  refine ofN (by decide) (Nat.le_of_ble_eq_true rfl) rfl ?_
  intro p e s m args below meth c A ls hAe hsz hx hb hml hr hlocks hin hown hE hP hD hA hS hl
  have hown : s.vm.findClass RX10 = some m.cls := hown
  refine lv_iconst (v := 0) hx hb dX10_time_0 (by decide) ?_
  refine lv_istore_n (lv' := [(3, .int 0), (0, .ref q1), (1, .int x2), (2, .int 0)]) hx hb dX10_time_1 rfl hl (by decide) rfl (fun ls hl => ?_)
  refine lv_iconst (v := 0) hx hb dX10_time_2 (by decide) ?_
  refine lv_istore (lv' := [(4, .int 0), (3, .int 0), (0, .ref q1), (1, .int x2), (2, .int 0)]) hx hb dX10_time_3 hl (by decide) rfl (fun ls hl => ?_)
  refine lv_iload hx hb dX10_time_5 (lv_at hl 0 rfl) ?_
  refine lv_aload_n hx hb dX10_time_7 rfl (lv_at hl 2 rfl) ?_
  refine gf_RX10_9 hx hb hown hE hP 1 rfl rfl dX10_time_8 ?_
  refine lv_sipush (v := 453) hx hb dX10_time_11 (by decide) ?_
  refine x_iald (v := 1) hx hb hE hP 0 rfl 453 (x_in (by decide)) (by decide) hf42 dX10_time_14 ?_
  refine lv_icmp_ge (tgt := 107) hx hb dX10_time_15 (by decide) (fun h => absurd h (by decide)) (fun _ => ?_)
  refine lv_aload_n hx hb dX10_time_18 rfl (lv_at hl 2 rfl) ?_
  refine gf_RX10_9 hx hb hown hE hP 1 rfl rfl dX10_time_19 ?_
  refine lv_sipush (v := 454) hx hb dX10_time_22 (by decide) ?_
  refine lv_iconst (v := 2) hx hb dX10_time_25 (by decide) ?_
  refine lv_iload hx hb dX10_time_26 (lv_at hl 0 rfl) ?_
  refine x_imul (v := 0) hx hb dX10_time_28 (by decide) ?_
  refine x_iadd (v := 454) hx hb dX10_time_29 (by decide) ?_
  refine x_iald (v := 0) hx hb hE hP 0 rfl 454 (x_in (by decide)) (by decide) hf43 dX10_time_30 ?_
  refine lv_istore (lv' := [(5, .int 0), (4, .int 0), (3, .int 0), (0, .ref q1), (1, .int x2), (2, .int 0)]) hx hb dX10_time_31 hl (by decide) rfl (fun ls hl => ?_)
  refine lv_iload hx hb dX10_time_33 (lv_at hl 1 rfl) ?_
  refine lv_iconst (v := 1) hx hb dX10_time_35 (by decide) ?_
  refine x_iadd (v := 1) hx hb dX10_time_36 (by decide) ?_
  refine lv_aload_n hx hb dX10_time_37 rfl (lv_at hl 3 rfl) ?_
  refine gf_RX10_9 hx hb hown hE hP 1 rfl rfl dX10_time_38 ?_
  refine lv_sipush (v := 453) hx hb dX10_time_41 (by decide) ?_
  refine x_iald (v := 1) hx hb hE hP 0 rfl 453 (x_in (by decide)) (by decide) hf42 dX10_time_44 ?_
  refine lv_icmp_ge (tgt := 70) hx hb dX10_time_45 (by decide) (fun _ => ?_) (fun h => absurd (by decide) h)
  refine lv_iload_n hx hb dX10_time_70 rfl (lv_at hl 4 rfl) ?_
  refine lv_istore (lv' := [(6, .int x2), (5, .int 0), (4, .int 0), (3, .int 0), (0, .ref q1), (1, .int x2), (2, .int 0)]) hx hb dX10_time_71 hl (by decide) rfl (fun ls hl => ?_)
  refine lv_iload_n hx hb dX10_time_73 rfl (lv_at hl 3 rfl) ?_
  refine lv_iconst (v := 0) hx hb dX10_time_74 (by decide) ?_
  refine lv_iload hx hb dX10_time_75 (lv_at hl 0 rfl) ?_
  refine lv_iload hx hb dX10_time_77 (lv_at hl 1 rfl) ?_
  refine x_isub (v := x2) hx hb dX10_time_79 (Int32.sub_zero _) ?_
  refine x_mmax (v := x2) hx hb (by rw [hml]; exact hl.1.symm) hown (e1506 hE) (e165 hE) (e9 hE) (e166 hE) (Nat.le_of_ble_eq_true rfl) (Nat.le_of_ble_eq_true rfl) (Nat.le_of_ble_eq_true rfl) (Nat.le_of_ble_eq_true rfl) (if_pos h44) dX10_time_80 ?_
  refine lv_aload_n hx hb dX10_time_83 rfl (lv_at hl 4 rfl) ?_
  refine gf_RX10_9 hx hb hown hE hP 1 rfl rfl dX10_time_84 ?_
  refine lv_sipush (v := 454) hx hb dX10_time_87 (by decide) ?_
  refine lv_iconst (v := 2) hx hb dX10_time_90 (by decide) ?_
  refine lv_iload hx hb dX10_time_91 (lv_at hl 2 rfl) ?_
  refine x_imul (v := 0) hx hb dX10_time_93 (by decide) ?_
  refine x_iadd (v := 454) hx hb dX10_time_94 (by decide) ?_
  refine lv_iconst (v := 1) hx hb dX10_time_95 (by decide) ?_
  refine x_iadd (v := 455) hx hb dX10_time_96 (by decide) ?_
  refine x_iald (v := 100) hx hb hE hP 0 rfl 455 (x_in (by decide)) (by decide) hf45 dX10_time_97 ?_
  refine x_imul (v := (x2 * 100)) hx hb dX10_time_98 rfl ?_
  refine x_iadd (v := (x2 * 100)) hx hb dX10_time_99 (Int32.zero_add _) ?_
  refine lv_istore_n (lv' := [(3, .int (x2 * 100)), (6, .int x2), (5, .int 0), (4, .int 0), (0, .ref q1), (1, .int x2), (2, .int 0)]) hx hb dX10_time_100 rfl hl (by decide) rfl (fun ls hl => ?_)
  refine lv_iinc (v := 1) (lv' := [(4, .int 1), (3, .int (x2 * 100)), (6, .int x2), (5, .int 0), (0, .ref q1), (1, .int x2), (2, .int 0)]) hx hb dX10_time_101 hl (k := 3) rfl (by decide) (by decide) rfl (fun ls hl => ?_)
  refine lv_goto (tgt := 5) hx hb dX10_time_104 (by decide) ?_
  refine lv_iload hx hb dX10_time_5 (lv_at hl 0 rfl) ?_
  refine lv_aload_n hx hb dX10_time_7 rfl (lv_at hl 4 rfl) ?_
  refine gf_RX10_9 hx hb hown hE hP 1 rfl rfl dX10_time_8 ?_
  refine lv_sipush (v := 453) hx hb dX10_time_11 (by decide) ?_
  refine x_iald (v := 1) hx hb hE hP 0 rfl 453 (x_in (by decide)) (by decide) hf42 dX10_time_14 ?_
  refine lv_icmp_ge (tgt := 107) hx hb dX10_time_15 (by decide) (fun _ => ?_) (fun h => absurd (by decide) h)
  refine lv_iload_n hx hb dX10_time_107 rfl (lv_at hl 6 rfl) ?_
  refine lv_if_ne (tgt := 117) hx hb dX10_time_108 (by decide) (fun h => absurd h (by decide)) (fun _ => ?_)
  refine lv_iload_n hx hb dX10_time_111 rfl (lv_at hl 5 rfl) ?_
  refine lv_iconst (v := 2) hx hb dX10_time_112 (by decide) ?_
  refine lv_irem hx hb dX10_time_113 (by decide) ?_
  refine x_top (v := (x2 - ((x2 / 2) * 2))) rfl ?_
  refine lv_if_ne (tgt := 121) hx hb dX10_time_114 (by decide) (fun h => absurd h (i_nne h46)) (fun _ => ?_)
  refine lv_iload_n hx hb dX10_time_117 rfl (lv_at hl 1 rfl) ?_
  refine lv_goto (tgt := 140) hx hb dX10_time_118 (by decide) ?_
  exact x_zret hx hb hr rfl rfl hlocks hP hD hS hAe hsz (Nat.le_of_ble_eq_true rfl) (Nat.le_of_ble_eq_true rfl) (fun _ => 0) [0, 1] (by decide) rfl dX10_time_140

set_option maxHeartbeats 4000000 in
set_option maxRecDepth 100000 in
theorem c1793_X10_timeOf (l : Launch) (g : gG) (q1 q42 : Nat) (x2 : Int32) (w6 w7 w8 w9 w10 w11 w12 w13 w14 w15 w16 w17 w18 w19 w20 w21 w22 w23 w24 w25 w26 w27 w28 w29 w30 w31 w32 w33 w34 w35 w36 w37 w38 w39 w40 w41 : Value) (f43 : Nat → Int32) (hf44 : f43 453 = 1) (hf45 : f43 454 = 0) (hf46 : f43 455 = 100) (hf47 : f43 494 = 0) (h3 : (0 : Int32) ≤ x2) (h4 : x2 ≤ 30000) (h48 : (0 : Int32) < x2) (h49 : (x2 - ((x2 / 2) * 2)) = 0) (sz : Nat) : Met l yX10_timeOf [Cond.code yX10_timeOf cX10_timeOf 3 (some .int)] ({ frames := 2, cells := 0, slots := 0, locals := 50 } : Room) (va_Pc [.ref q1, .int x2, .int 0] (PX g sz [(q42, .inl (g.2 0, 497, .inl f43)), (q1, .inr (12, [.ref q42, w6, w7, w8, w9, w10, w11, w12, w13, w14, w15, w16, w17, w18, w19, w20, w21, w22, w23, w24, w25, w26, w27, w28, w29, w30, w31, w32, w33, w34, w35, w36, w37, w38, w39, w40, w41]))])) (QI g [(q42, .inl (g.2 0, 497, .inl f43)), (q1, .inr (12, [.ref q42, w6, w7, w8, w9, w10, w11, w12, w13, w14, w15, w16, w17, w18, w19, w20, w21, w22, w23, w24, w25, w26, w27, w28, w29, w30, w31, w32, w33, w34, w35, w36, w37, w38, w39, w40, w41]))] sz (x2 * 100) (fun _ => [(q1, .inr (12, [.ref q42, w6, w7, w8, w9, w10, .int 0, w12, w13, w14, w15, w16, w17, w18, w19, w20, w21, w22, w23, w24, w25, w26, w27, w28, w29, w30, w31, w32, w33, w34, w35, w36, w37, w38, w39, w40, w41]))])) 0 0 (va_A [(q42, .inl (g.2 0, 497, .inl f43)), (q1, .inr (12, [.ref q42, w6, w7, w8, w9, w10, w11, w12, w13, w14, w15, w16, w17, w18, w19, w20, w21, w22, w23, w24, w25, w26, w27, w28, w29, w30, w31, w32, w33, w34, w35, w36, w37, w38, w39, w40, w41]))] sz) := by
  refine ofN (by decide) (Nat.le_of_ble_eq_true rfl) rfl ?_
  intro p e s m args below meth c A ls hAe hsz hx hb hml hr hlocks hin hown hE hP hD hA hS hl
  have hown : s.vm.findClass RX10 = some m.cls := hown
  refine lv_aload_n hx hb dX10_timeOf_0 rfl (lv_at hl 0 rfl) ?_
  refine lv_iload_n hx hb dX10_timeOf_1 rfl (lv_at hl 1 rfl) ?_
  refine lv_iconst (v := 0) hx hb dX10_timeOf_2 (by decide) ?_
  refine lv_sipush (v := 30000) hx hb dX10_timeOf_3 (by decide) ?_
  refine g0_i (rS (rest := [.ref q1]) hx hb hml hown hE hP hD (c1703_X10_in l g x2 h3 h4 s.heap.size) (kS_X10_in hE (e1431 hE) rfl rfl ⟨(Nat.le_of_ble_eq_true rfl), (Nat.le_of_ble_eq_true rfl)⟩) [] rfl (by decide) rfl hl.1 rfl (lv_room (Nat.le_of_ble_eq_true rfl)) dX10_timeOf_6 ⟨(Nat.le_of_ble_eq_true rfl), (Nat.le_of_ble_eq_true rfl)⟩) hP hD hS hA (fun u9 H locs hP hS => ?_)
  refine lv_if_eq (tgt := 16) hx hb dX10_timeOf_9 (by decide) (fun h => absurd h (by decide)) (fun _ => ?_)
  refine lv_iconst (v := 0) hx hb dX10_timeOf_12 (by decide) ?_
  refine lv_goto (tgt := 17) hx hb dX10_timeOf_13 (by decide) ?_
  refine pf_RX10_86 (ws' := [(q42, .inl (g.2 0, 497, .inl f43)), (q1, .inr (12, [.ref q42, w6, w7, w8, w9, w10, .int 0, w12, w13, w14, w15, w16, w17, w18, w19, w20, w21, w22, w23, w24, w25, w26, w27, w28, w29, w30, w31, w32, w33, w34, w35, w36, w37, w38, w39, w40, w41]))]) hx hb hown hE hP hD hS 1 rfl rfl rfl (Nat.le_of_ble_eq_true rfl) dX10_timeOf_17 rfl (fun H locs hP hD hS => ?_)
  refine lv_aload_n hx hb dX10_timeOf_20 rfl (lv_at hl 0 rfl) ?_
  refine gf_RX10_86 hx hb hown hE hP 1 rfl rfl dX10_timeOf_21 ?_
  refine lv_if_le (tgt := 31) hx hb dX10_timeOf_24 (by decide) (fun _ => ?_) (fun h => absurd (by decide) h)
  refine lv_aload_n hx hb dX10_timeOf_31 rfl (lv_at hl 0 rfl) ?_
  refine lv_iload_n hx hb dX10_timeOf_32 rfl (lv_at hl 1 rfl) ?_
  refine lv_iload_n hx hb dX10_timeOf_33 rfl (lv_at hl 2 rfl) ?_
  refine g_i (wr := []) (rV (rest := []) hx hb hml hown hE hP hD 1 rfl rfl (c1792_X10_time l g q1 q42 x2 w6 w7 w8 w9 w10 (.int 0) w12 w13 w14 w15 w16 w17 w18 w19 w20 w21 w22 w23 w24 w25 w26 w27 w28 w29 w30 w31 w32 w33 w34 w35 w36 w37 w38 w39 w40 w41 f43 (hf44) (hf45) (hf46) h48 h49 H.size) (kV_X10_time hE (e1551 hE) rfl rfl ⟨(Nat.le_of_ble_eq_true rfl), (Nat.le_of_ble_eq_true rfl)⟩) [0, 1] rfl (by decide) rfl hl.1 rfl (lv_room (Nat.le_of_ble_eq_true rfl)) dX10_timeOf_34 ⟨(Nat.le_of_ble_eq_true rfl), (Nat.le_of_ble_eq_true rfl)⟩) hP hD hS hA [0, 1] [] rfl rfl (by decide) (by decide) (fun u2 H locs hP hD hS => ?_)
  have hP : va_P g.1 vwCl [(q42, .inl (g.2 0, 497, .inl f43)), (q1, .inr (12, [.ref q42, w6, w7, w8, w9, w10, .int 0, w12, w13, w14, w15, w16, w17, w18, w19, w20, w21, w22, w23, w24, w25, w26, w27, w28, w29, w30, w31, w32, w33, w34, w35, w36, w37, w38, w39, w40, w41]))] H := hP
  have hD : va_D A [(q42, .inl (g.2 0, 497, .inl f43)), (q1, .inr (12, [.ref q42, w6, w7, w8, w9, w10, .int 0, w12, w13, w14, w15, w16, w17, w18, w19, w20, w21, w22, w23, w24, w25, w26, w27, w28, w29, w30, w31, w32, w33, w34, w35, w36, w37, w38, w39, w40, w41]))] := hD
  exact x_zret hx hb hr rfl rfl hlocks hP hD hS hAe hsz (Nat.le_of_ble_eq_true rfl) (Nat.le_of_ble_eq_true rfl) (fun _ => 0) [1] (by decide) rfl dX10_timeOf_37

set_option maxHeartbeats 4000000 in
set_option maxRecDepth 100000 in
theorem c1794_X7_swungTime (l : Launch) (g : gG) (q1 q7 q11 : Nat) (x2 : Int32) (f8 : Nat → Int32) (f12 : Nat → Int32) (hf9 : f8 0 = 0) (hf13 : f12 0 = 100) (h10 : (0 : Int32) < x2) (h14 : (x2 &&& 1) = 1) (sz : Nat) : Met l yX7_swungTime [Cond.code yX7_swungTime cX7_swungTime 3 (some .int)] ({ frames := 2, cells := 0, slots := 0, locals := 46 } : Room) (va_Pc [.ref q1, .int x2] (PX g sz [(q11, .inl (g.2 0, 10, .inl f12)), (q7, .inl (g.2 0, 10, .inl f8)), (q1, .inr (9, [.ref q7, .ref q11, .int 1, .int 0]))])) (QI g [(q11, .inl (g.2 0, 10, .inl f12)), (q7, .inl (g.2 0, 10, .inl f8)), (q1, .inr (9, [.ref q7, .ref q11, .int 1, .int 0]))] sz (x2 * 100) (fun _ => [(q7, .inl (g.2 0, 10, .inl f8)), (q11, .inl (g.2 0, 10, .inl f12)), (q1, .inr (9, [.ref q7, .ref q11, .int 1, .int 0]))])) 0 0 (va_A [(q11, .inl (g.2 0, 10, .inl f12)), (q7, .inl (g.2 0, 10, .inl f8)), (q1, .inr (9, [.ref q7, .ref q11, .int 1, .int 0]))] sz) := by
  refine ofN (by decide) (Nat.le_of_ble_eq_true rfl) rfl ?_
  intro p e s m args below meth c A ls hAe hsz hx hb hml hr hlocks hin hown hE hP hD hA hS hl
  have hown : s.vm.findClass RX7 = some m.cls := hown
  refine lv_aload_n hx hb dX7_swungTime_0 rfl (lv_at hl 0 rfl) ?_
  refine lv_iload_n hx hb dX7_swungTime_1 rfl (lv_at hl 1 rfl) ?_
  refine g_i (wr := []) (rV (rest := []) hx hb hml hown hE hP hD 2 rfl rfl (c1786_X7_plainTime l g q1 q7 q11 x2 (.int 0) f8 f12 (hf9) (hf13) h10 s.heap.size) (kV_X7_plainTime hE (e405 hE) rfl rfl ⟨(Nat.le_of_ble_eq_true rfl), (Nat.le_of_ble_eq_true rfl)⟩) [0, 1, 2] rfl (by decide) rfl hl.1 rfl (lv_room (Nat.le_of_ble_eq_true rfl)) dX7_swungTime_2 ⟨(Nat.le_of_ble_eq_true rfl), (Nat.le_of_ble_eq_true rfl)⟩) hP hD hS hA [0, 1, 2] [] rfl rfl (by decide) (by decide) (fun u1 H locs hP hD hS => ?_)
  have hP : va_P g.1 vwCl [(q7, .inl (g.2 0, 10, .inl f8)), (q11, .inl (g.2 0, 10, .inl f12)), (q1, .inr (9, [.ref q7, .ref q11, .int 1, .int 0]))] H := hP
  have hD : va_D A [(q7, .inl (g.2 0, 10, .inl f8)), (q11, .inl (g.2 0, 10, .inl f12)), (q1, .inr (9, [.ref q7, .ref q11, .int 1, .int 0]))] := hD
  refine lv_istore_n (lv' := [(2, .int (x2 * 100)), (0, .ref q1), (1, .int x2)]) hx hb dX7_swungTime_5 rfl hl (by decide) rfl (fun ls hl => ?_)
  refine lv_iload_n hx hb dX7_swungTime_6 rfl (lv_at hl 2 rfl) ?_
  refine lv_iconst (v := 1) hx hb dX7_swungTime_7 (by decide) ?_
  refine x_iand (v := (x2 &&& 1)) hx hb dX7_swungTime_8 rfl ?_
  refine lv_iconst (v := 1) hx hb dX7_swungTime_9 (by decide) ?_
  refine lv_icmp_ne (tgt := 31) hx hb dX7_swungTime_10 (by decide) (fun h => absurd h (i_nne h14)) (fun _ => ?_)
  refine lv_iload_n hx hb dX7_swungTime_13 rfl (lv_at hl 0 rfl) ?_
  refine lv_aload_n hx hb dX7_swungTime_14 rfl (lv_at hl 1 rfl) ?_
  refine gf_RX7_22 hx hb hown hE hP 2 rfl rfl dX7_swungTime_15 ?_
  refine lv_aload_n hx hb dX7_swungTime_18 rfl (lv_at hl 1 rfl) ?_
  refine lv_iload_n hx hb dX7_swungTime_19 rfl (lv_at hl 2 rfl) ?_
  refine g_i (wr := [(q7, .inl (g.2 0, 10, .inl f8))]) (rV (rest := [.int 0, .int (x2 * 100)]) hx hb hml hown hE hP hD 2 rfl rfl (c1743_X7_paceAt l g q1 q11 x2 (.ref q7) (.int 0) f12 (hf13) H.size) (kV_X7_paceAt hE (e417 hE) rfl rfl ⟨(Nat.le_of_ble_eq_true rfl), (Nat.le_of_ble_eq_true rfl)⟩) [1, 2] rfl (by decide) rfl hl.1 rfl (lv_room (Nat.le_of_ble_eq_true rfl)) dX7_swungTime_20 ⟨(Nat.le_of_ble_eq_true rfl), (Nat.le_of_ble_eq_true rfl)⟩) hP hD hS hA [1, 2] [0] rfl rfl (by decide) (by decide) (fun u2 H locs hP hD hS => ?_)
  have hP : va_P g.1 vwCl [(q7, .inl (g.2 0, 10, .inl f8)), (q11, .inl (g.2 0, 10, .inl f12)), (q1, .inr (9, [.ref q7, .ref q11, .int 1, .int 0]))] H := hP
  have hD : va_D A [(q7, .inl (g.2 0, 10, .inl f8)), (q11, .inl (g.2 0, 10, .inl f12)), (q1, .inr (9, [.ref q7, .ref q11, .int 1, .int 0]))] := hD
  refine x_imul (v := 0) hx hb dX7_swungTime_23 (by decide) ?_
  refine lv_bipush (v := 100) hx hb dX7_swungTime_24 (by decide) ?_
  refine lv_idiv hx hb dX7_swungTime_26 (by decide) ?_
  refine x_top (v := 0) (by decide) ?_
  refine x_iadd (v := (x2 * 100)) hx hb dX7_swungTime_27 (Int32.add_zero _) ?_
  refine lv_goto (tgt := 32) hx hb dX7_swungTime_28 (by decide) ?_
  exact x_zret hx hb hr rfl rfl hlocks hP hD hS hAe hsz (Nat.le_of_ble_eq_true rfl) (Nat.le_of_ble_eq_true rfl) (fun _ => 0) [0, 1, 2] (by decide) rfl dX7_swungTime_32

set_option maxHeartbeats 4000000 in
set_option maxRecDepth 100000 in
theorem c1795_X9_timeOf (l : Launch) (g : gG) (q1 q16 q20 q23 q31 q36 q37 : Nat) (x2 : Int32) (w6 w7 w8 w9 w10 w11 w12 w13 w14 w15 w19 w24 w26 w27 w28 w29 w30 : Value) (f21 : Nat → Option Nat) (f38 : Nat → Int32) (f40 : Nat → Int32) (hf22 : f21 0 = some q23) (hf39 : f38 0 = 0) (hf41 : f40 0 = 100) (h3 : (0 : Int32) ≤ x2) (h4 : x2 ≤ 30000) (h42 : (0 : Int32) < x2) (h43 : (x2 &&& 1) = 1) (sz : Nat) : Met l yX9_timeOf [Cond.code yX9_timeOf cX9_timeOf 4 (some .int)] ({ frames := 3, cells := 0, slots := 0, locals := 68 } : Room) (va_Pc [.ref q1, .int x2, .int 0] (PX g sz [(q37, .inl (g.2 0, 10, .inl f40)), (q36, .inl (g.2 0, 10, .inl f38)), (q31, .inr (9, [.ref q36, .ref q37, .int 1, .int 0])), (q23, .inr (8, [w24, .ref q31, w26, w27, w28, w29, w30])), (q20, .inl (g.2 3, 10, .inr (.inr (.inr (.inr f21))))), (q16, .inr (10, [.ref q20, .int 0, w19])), (q1, .inr (11, [.ref q16, w6, w7, w8, w9, w10, w11, w12, w13, w14, w15]))])) (QI g [(q37, .inl (g.2 0, 10, .inl f40)), (q36, .inl (g.2 0, 10, .inl f38)), (q31, .inr (9, [.ref q36, .ref q37, .int 1, .int 0])), (q23, .inr (8, [w24, .ref q31, w26, w27, w28, w29, w30])), (q20, .inl (g.2 3, 10, .inr (.inr (.inr (.inr f21))))), (q16, .inr (10, [.ref q20, .int 0, w19])), (q1, .inr (11, [.ref q16, w6, w7, w8, w9, w10, w11, w12, w13, w14, w15]))] sz (x2 * 100) (fun _ => [(q23, .inr (8, [w24, .ref q31, w26, w27, w28, w29, w30])), (q1, .inr (11, [.ref q16, w6, w7, w8, w9, w10, w11, w12, w13, w14, w15])), (q20, .inl (g.2 3, 10, .inr (.inr (.inr (.inr f21))))), (q16, .inr (10, [.ref q20, .int 0, w19])), (q36, .inl (g.2 0, 10, .inl f38)), (q37, .inl (g.2 0, 10, .inl f40)), (q31, .inr (9, [.ref q36, .ref q37, .int 1, .int 0]))])) 0 0 (va_A [(q37, .inl (g.2 0, 10, .inl f40)), (q36, .inl (g.2 0, 10, .inl f38)), (q31, .inr (9, [.ref q36, .ref q37, .int 1, .int 0])), (q23, .inr (8, [w24, .ref q31, w26, w27, w28, w29, w30])), (q20, .inl (g.2 3, 10, .inr (.inr (.inr (.inr f21))))), (q16, .inr (10, [.ref q20, .int 0, w19])), (q1, .inr (11, [.ref q16, w6, w7, w8, w9, w10, w11, w12, w13, w14, w15]))] sz) := by
  refine ofN (by decide) (Nat.le_of_ble_eq_true rfl) rfl ?_
  intro p e s m args below meth c A ls hAe hsz hx hb hml hr hlocks hin hown hE hP hD hA hS hl
  have hown : s.vm.findClass RX9 = some m.cls := hown
  refine lv_iload_n hx hb dX9_timeOf_0 rfl (lv_at hl 1 rfl) ?_
  refine lv_iconst (v := 0) hx hb dX9_timeOf_1 (by decide) ?_
  refine lv_sipush (v := 30000) hx hb dX9_timeOf_2 (by decide) ?_
  refine g0_v (rS (rest := []) hx hb hml hown hE hP hD (c1699_X9_requireRange l g x2 h3 h4 s.heap.size) (kS_X9_requireRange hE (e636 hE) rfl rfl ⟨(Nat.le_of_ble_eq_true rfl), (Nat.le_of_ble_eq_true rfl)⟩) [] rfl (by decide) rfl hl.1 rfl (lv_room (Nat.le_of_ble_eq_true rfl)) dX9_timeOf_5 ⟨(Nat.le_of_ble_eq_true rfl), (Nat.le_of_ble_eq_true rfl)⟩) hP hD hS hA (fun u9 H locs hP hS => ?_)
  refine lv_aload_n hx hb dX9_timeOf_8 rfl (lv_at hl 0 rfl) ?_
  refine gf_RX9_12 hx hb hown hE hP 6 rfl rfl dX9_timeOf_9 ?_
  refine g_r (wr := [(q37, .inl (g.2 0, 10, .inl f40)), (q36, .inl (g.2 0, 10, .inl f38)), (q31, .inr (9, [.ref q36, .ref q37, .int 1, .int 0])), (q23, .inr (8, [w24, .ref q31, w26, w27, w28, w29, w30])), (q1, .inr (11, [.ref q16, w6, w7, w8, w9, w10, w11, w12, w13, w14, w15]))]) (rV (rest := []) hx hb hml hown hE hP hD 5 rfl rfl (c71_X8_current l g q16 q20 q23 w19 f21 (hf22) H.size) (kV_X8_current hE (e290 hE) rfl rfl ⟨(Nat.le_of_ble_eq_true rfl), (Nat.le_of_ble_eq_true rfl)⟩) [4, 5] rfl (by decide) rfl hl.1 rfl (lv_room (Nat.le_of_ble_eq_true rfl)) dX9_timeOf_12 ⟨(Nat.le_of_ble_eq_true rfl), (Nat.le_of_ble_eq_true rfl)⟩) hP hD hS hA [4, 5] [0, 1, 2, 3, 6] rfl rfl (by decide) (by decide) (fun u2 H locs hP hD hS => ?_)
  have hP : va_P g.1 vwCl [(q37, .inl (g.2 0, 10, .inl f40)), (q36, .inl (g.2 0, 10, .inl f38)), (q31, .inr (9, [.ref q36, .ref q37, .int 1, .int 0])), (q23, .inr (8, [w24, .ref q31, w26, w27, w28, w29, w30])), (q1, .inr (11, [.ref q16, w6, w7, w8, w9, w10, w11, w12, w13, w14, w15])), (q20, .inl (g.2 3, 10, .inr (.inr (.inr (.inr f21))))), (q16, .inr (10, [.ref q20, .int 0, w19]))] H := hP
  have hD : va_D A [(q37, .inl (g.2 0, 10, .inl f40)), (q36, .inl (g.2 0, 10, .inl f38)), (q31, .inr (9, [.ref q36, .ref q37, .int 1, .int 0])), (q23, .inr (8, [w24, .ref q31, w26, w27, w28, w29, w30])), (q1, .inr (11, [.ref q16, w6, w7, w8, w9, w10, w11, w12, w13, w14, w15])), (q20, .inl (g.2 3, 10, .inr (.inr (.inr (.inr f21))))), (q16, .inr (10, [.ref q20, .int 0, w19]))] := hD
  refine gf_RX9_193 hx hb hown hE hP 3 rfl rfl dX9_timeOf_15 ?_
  refine lv_astore_n (lv' := [(3, .ref q31), (0, .ref q1), (1, .int x2), (2, .int 0)]) hx hb dX9_timeOf_18 rfl hl (by decide) rfl (fun ls hl => ?_)
  refine lv_iload_n hx hb dX9_timeOf_19 rfl (lv_at hl 3 rfl) ?_
  refine lv_if_eq (tgt := 31) hx hb dX9_timeOf_20 (by decide) (fun _ => ?_) (fun h => absurd (by decide) h)
  refine lv_aload_n hx hb dX9_timeOf_31 rfl (lv_at hl 0 rfl) ?_
  refine lv_iload_n hx hb dX9_timeOf_32 rfl (lv_at hl 2 rfl) ?_
  refine g_i (wr := [(q23, .inr (8, [w24, .ref q31, w26, w27, w28, w29, w30])), (q1, .inr (11, [.ref q16, w6, w7, w8, w9, w10, w11, w12, w13, w14, w15])), (q20, .inl (g.2 3, 10, .inr (.inr (.inr (.inr f21))))), (q16, .inr (10, [.ref q20, .int 0, w19]))]) (rV (rest := []) hx hb hml hown hE hP hD 2 rfl rfl (c1794_X7_swungTime l g q31 q36 q37 x2 f38 f40 (hf39) (hf41) h42 h43 H.size) (kV_X7_swungTime hE (e967 hE) rfl rfl ⟨(Nat.le_of_ble_eq_true rfl), (Nat.le_of_ble_eq_true rfl)⟩) [0, 1, 2] rfl (by decide) rfl hl.1 rfl (lv_room (Nat.le_of_ble_eq_true rfl)) dX9_timeOf_33 ⟨(Nat.le_of_ble_eq_true rfl), (Nat.le_of_ble_eq_true rfl)⟩) hP hD hS hA [0, 1, 2] [3, 4, 5, 6] rfl rfl (by decide) (by decide) (fun u3 H locs hP hD hS => ?_)
  have hP : va_P g.1 vwCl [(q23, .inr (8, [w24, .ref q31, w26, w27, w28, w29, w30])), (q1, .inr (11, [.ref q16, w6, w7, w8, w9, w10, w11, w12, w13, w14, w15])), (q20, .inl (g.2 3, 10, .inr (.inr (.inr (.inr f21))))), (q16, .inr (10, [.ref q20, .int 0, w19])), (q36, .inl (g.2 0, 10, .inl f38)), (q37, .inl (g.2 0, 10, .inl f40)), (q31, .inr (9, [.ref q36, .ref q37, .int 1, .int 0]))] H := hP
  have hD : va_D A [(q23, .inr (8, [w24, .ref q31, w26, w27, w28, w29, w30])), (q1, .inr (11, [.ref q16, w6, w7, w8, w9, w10, w11, w12, w13, w14, w15])), (q20, .inl (g.2 3, 10, .inr (.inr (.inr (.inr f21))))), (q16, .inr (10, [.ref q20, .int 0, w19])), (q36, .inl (g.2 0, 10, .inl f38)), (q37, .inl (g.2 0, 10, .inl f40)), (q31, .inr (9, [.ref q36, .ref q37, .int 1, .int 0]))] := hD
  exact x_zret hx hb hr rfl rfl hlocks hP hD hS hAe hsz (Nat.le_of_ble_eq_true rfl) (Nat.le_of_ble_eq_true rfl) (fun _ => 0) [0, 1, 2, 3, 4, 5, 6] (by decide) rfl dX9_timeOf_36

set_option maxHeartbeats 4000000 in
set_option maxRecDepth 100000 in
theorem c1796_L_timeOf (l : Launch) (g : gG) (hlx : l.stackTraces = false) (q1 q3 q16 q20 q23 q31 q36 q37 : Nat) (x2 : Int32) (w6 w7 w8 w9 w10 w11 w12 w13 w14 w15 w19 w24 w26 w27 w28 w29 w30 : Value) (f21 : Nat → Option Nat) (f38 : Nat → Int32) (f40 : Nat → Int32) (f45 : Nat → Int64) (hf22 : f21 0 = some q23) (hf39 : f38 0 = 0) (hf41 : f40 0 = 100) (h4 : (0 : Int32) ≤ x2) (h42 : x2 ≤ 30000) (h43 : (0 : Int32) < x2) (h44 : (x2 &&& 1) = 1) (sz : Nat) : Met l yL_timeOf [Cond.codeWith yL_timeOf cL_timeOf 5 (some .int) [(0, 10, 13, 15)]] ({ frames := 4, cells := 0, slots := 0, locals := 91 } : Room) (va_Pc [.ref q1, .int x2, .int 0, .ref q3] (PZ g sz [(q3, .inl (g.2 1, 1, .inr (.inl f45))), (q37, .inl (g.2 0, 10, .inl f40)), (q36, .inl (g.2 0, 10, .inl f38)), (q31, .inr (9, [.ref q36, .ref q37, .int 1, .int 0])), (q23, .inr (8, [w24, .ref q31, w26, w27, w28, w29, w30])), (q20, .inl (g.2 3, 10, .inr (.inr (.inr (.inr f21))))), (q16, .inr (10, [.ref q20, .int 0, w19])), (q1, .inr (11, [.ref q16, w6, w7, w8, w9, w10, w11, w12, w13, w14, w15]))])) (QI g [(q3, .inl (g.2 1, 1, .inr (.inl f45))), (q37, .inl (g.2 0, 10, .inl f40)), (q36, .inl (g.2 0, 10, .inl f38)), (q31, .inr (9, [.ref q36, .ref q37, .int 1, .int 0])), (q23, .inr (8, [w24, .ref q31, w26, w27, w28, w29, w30])), (q20, .inl (g.2 3, 10, .inr (.inr (.inr (.inr f21))))), (q16, .inr (10, [.ref q20, .int 0, w19])), (q1, .inr (11, [.ref q16, w6, w7, w8, w9, w10, w11, w12, w13, w14, w15]))] sz 0 (fun _ => [(q3, .inl (g.2 1, 1, .inr (.inl (vp_updL f45 0 ((x2 * 100)).toInt64))))])) 0 0 (va_A [(q3, .inl (g.2 1, 1, .inr (.inl f45))), (q37, .inl (g.2 0, 10, .inl f40)), (q36, .inl (g.2 0, 10, .inl f38)), (q31, .inr (9, [.ref q36, .ref q37, .int 1, .int 0])), (q23, .inr (8, [w24, .ref q31, w26, w27, w28, w29, w30])), (q20, .inl (g.2 3, 10, .inr (.inr (.inr (.inr f21))))), (q16, .inr (10, [.ref q20, .int 0, w19])), (q1, .inr (11, [.ref q16, w6, w7, w8, w9, w10, w11, w12, w13, w14, w15]))] sz) := by
  refine ofH (by decide) (Nat.le_of_ble_eq_true rfl) rfl ?_
  intro p e s m args below meth c A ls hAe hsz hx hb hml hr hlocks hin hown hE hP hD hA hS hl htb hz
  have hown : s.vm.findClass RL = some m.cls := hown
  refine lv_aload_n hx hb dL_timeOf_0 rfl (lv_at hl 3 rfl) ?_
  refine lv_iconst (v := 0) hx hb dL_timeOf_1 (by decide) ?_
  refine lv_aload_n hx hb dL_timeOf_2 rfl (lv_at hl 0 rfl) ?_
  refine lv_iload_n hx hb dL_timeOf_3 rfl (lv_at hl 1 rfl) ?_
  refine lv_iload_n hx hb dL_timeOf_4 rfl (lv_at hl 2 rfl) ?_
  refine g_i (wr := [(q3, .inl (g.2 1, 1, .inr (.inl f45)))]) (rV (rest := [.int 0, .ref q3]) hx hb hml hown hE hP hD 7 rfl rfl (c1795_X9_timeOf l g q1 q16 q20 q23 q31 q36 q37 x2 w6 w7 w8 w9 w10 w11 w12 w13 w14 w15 w19 w24 w26 w27 w28 w29 w30 f21 f38 f40 (hf22) (hf39) (hf41) h4 h42 h43 h44 s.heap.size) (kV_X9_timeOf hE (e962 hE) rfl rfl ⟨(Nat.le_of_ble_eq_true rfl), (Nat.le_of_ble_eq_true rfl)⟩) [1, 2, 3, 4, 5, 6, 7] rfl (by decide) rfl hl.1 rfl (lv_room (Nat.le_of_ble_eq_true rfl)) dL_timeOf_5 ⟨(Nat.le_of_ble_eq_true rfl), (Nat.le_of_ble_eq_true rfl)⟩) hP hD hS hA [1, 2, 3, 4, 5, 6, 7] [0] rfl rfl (by decide) (by decide) (fun u1 H locs hP hD hS => ?_)
  have hP : va_P g.1 vwCl [(q3, .inl (g.2 1, 1, .inr (.inl f45))), (q23, .inr (8, [w24, .ref q31, w26, w27, w28, w29, w30])), (q1, .inr (11, [.ref q16, w6, w7, w8, w9, w10, w11, w12, w13, w14, w15])), (q20, .inl (g.2 3, 10, .inr (.inr (.inr (.inr f21))))), (q16, .inr (10, [.ref q20, .int 0, w19])), (q36, .inl (g.2 0, 10, .inl f38)), (q37, .inl (g.2 0, 10, .inl f40)), (q31, .inr (9, [.ref q36, .ref q37, .int 1, .int 0]))] H := hP
  have hD : va_D A [(q3, .inl (g.2 1, 1, .inr (.inl f45))), (q23, .inr (8, [w24, .ref q31, w26, w27, w28, w29, w30])), (q1, .inr (11, [.ref q16, w6, w7, w8, w9, w10, w11, w12, w13, w14, w15])), (q20, .inl (g.2 3, 10, .inr (.inr (.inr (.inr f21))))), (q16, .inr (10, [.ref q20, .int 0, w19])), (q36, .inl (g.2 0, 10, .inl f38)), (q37, .inl (g.2 0, 10, .inl f40)), (q31, .inr (9, [.ref q36, .ref q37, .int 1, .int 0]))] := hD
  refine lv_i2l (v := ((x2 * 100)).toInt64) hx hb dL_timeOf_8 rfl ?_
  refine x_last (ws' := [(q3, .inl (g.2 1, 1, .inr (.inl (vp_updL f45 0 ((x2 * 100)).toInt64)))), (q23, .inr (8, [w24, .ref q31, w26, w27, w28, w29, w30])), (q1, .inr (11, [.ref q16, w6, w7, w8, w9, w10, w11, w12, w13, w14, w15])), (q20, .inl (g.2 3, 10, .inr (.inr (.inr (.inr f21))))), (q16, .inr (10, [.ref q20, .int 0, w19])), (q36, .inl (g.2 0, 10, .inl f38)), (q37, .inl (g.2 0, 10, .inl f40)), (q31, .inr (9, [.ref q36, .ref q37, .int 1, .int 0]))]) hx hb hE hP hD hS 0 rfl 0 (x_in (by decide)) (by decide) dL_timeOf_9 rfl (fun H locs hP hD hS => ?_)
  refine lv_goto (tgt := 17) hx hb dL_timeOf_10 (by decide) ?_
  refine lv_iconst (v := 0) hx hb dL_timeOf_17 (by decide) ?_
  exact x_zret hx hb hr rfl rfl hlocks hP hD hS hAe hsz (Nat.le_of_ble_eq_true rfl) (Nat.le_of_ble_eq_true rfl) (fun _ => 0) [0] (by decide) rfl dL_timeOf_18

set_option maxHeartbeats 4000000 in
set_option maxRecDepth 100000 in
theorem c1797_X9_timeOf (l : Launch) (g : gG) (hlx : l.stackTraces = false) (q1 : Nat) (x2 : Int32) (h3 : (0 : Int32) ≤ x2) (h4 : (30000 : Int32) < x2) (sz : Nat) : vx_Met l yX9_timeOf [Cond.code yX9_timeOf cX9_timeOf 4 (some .int)] ({ frames := 7, cells := 1, slots := 6, locals := 122 } : Room) (va_Pc [.ref q1, .int x2, .int 0] (PZ g sz [])) NI (XW g [] sz "java/lang/IllegalArgumentException" []) 1 6 (va_A [] sz) := by
  refine ofX (by decide) (Nat.le_of_ble_eq_true rfl) rfl ?_
  intro p e s m args below meth c A ls hAe hsz hx hb hml hr hlocks hin hown hE hP hD hA hS hl hex hz
  have hown : s.vm.findClass RX9 = some m.cls := hown
  refine lv_iload_n hx hb dX9_timeOf_0 rfl (lv_at hl 1 rfl) ?_
  refine lv_iconst (v := 0) hx hb dX9_timeOf_1 (by decide) ?_
  refine lv_sipush (v := 30000) hx hb dX9_timeOf_2 (by decide) ?_
  refine gx_v (wr := []) (rSx (rest := []) hx hb hml hown hE hP hD hS hA hz (c1727_X9_requireRange l g hlx x2 h3 h4 s.heap.size) (kS_X9_requireRange hE (e636 hE) rfl rfl ⟨(Nat.le_of_ble_eq_true rfl), (Nat.le_of_ble_eq_true rfl)⟩) [] rfl (by decide) rfl hl.1 rfl (lv_room (Nat.le_of_ble_eq_true rfl)) dX9_timeOf_5 ⟨(Nat.le_of_ble_eq_true rfl), (Nat.le_of_ble_eq_true rfl)⟩) hP hD hS hA [] [] rfl rfl (by decide) (by decide) (fun ce9 q9 H locs hP hD hS hq1 hq2 hq3 => ?_)
  exact x_out hex hlocks hq1 hq2 hq3 hP hD hS hAe hsz (Nat.le_of_ble_eq_true rfl) (Nat.le_of_ble_eq_true rfl) [] (by decide) rfl

set_option maxHeartbeats 4000000 in
set_option maxRecDepth 100000 in
theorem c1798_L_timeOf (l : Launch) (g : gG) (hlx : l.stackTraces = false) (q1 q3 q16 q20 q23 q31 q36 q37 : Nat) (x2 : Int32) (w6 w7 w8 w9 w10 w11 w12 w13 w14 w15 w19 w24 w26 w27 w28 w29 w30 : Value) (f21 : Nat → Option Nat) (f38 : Nat → Int32) (f40 : Nat → Int32) (hf22 : f21 0 = some q23) (hf39 : f38 0 = 0) (hf41 : f40 0 = 100) (h4 : (0 : Int32) ≤ x2) (h42 : (30000 : Int32) < x2) (sz : Nat) : Met l yL_timeOf [Cond.codeWith yL_timeOf cL_timeOf 5 (some .int) [(0, 10, 13, 15)]] ({ frames := 8, cells := 1, slots := 6, locals := 145 } : Room) (va_Pc [.ref q1, .int x2, .int 0, .ref q3] (PZ g sz [(q37, .inl (g.2 0, 10, .inl f40)), (q36, .inl (g.2 0, 10, .inl f38)), (q31, .inr (9, [.ref q36, .ref q37, .int 1, .int 0])), (q23, .inr (8, [w24, .ref q31, w26, w27, w28, w29, w30])), (q20, .inl (g.2 3, 10, .inr (.inr (.inr (.inr f21))))), (q16, .inr (10, [.ref q20, .int 0, w19])), (q1, .inr (11, [.ref q16, w6, w7, w8, w9, w10, w11, w12, w13, w14, w15]))])) (QI g [(q37, .inl (g.2 0, 10, .inl f40)), (q36, .inl (g.2 0, 10, .inl f38)), (q31, .inr (9, [.ref q36, .ref q37, .int 1, .int 0])), (q23, .inr (8, [w24, .ref q31, w26, w27, w28, w29, w30])), (q20, .inl (g.2 3, 10, .inr (.inr (.inr (.inr f21))))), (q16, .inr (10, [.ref q20, .int 0, w19])), (q1, .inr (11, [.ref q16, w6, w7, w8, w9, w10, w11, w12, w13, w14, w15]))] sz 1 (fun _ => [])) 1 6 (va_A [(q37, .inl (g.2 0, 10, .inl f40)), (q36, .inl (g.2 0, 10, .inl f38)), (q31, .inr (9, [.ref q36, .ref q37, .int 1, .int 0])), (q23, .inr (8, [w24, .ref q31, w26, w27, w28, w29, w30])), (q20, .inl (g.2 3, 10, .inr (.inr (.inr (.inr f21))))), (q16, .inr (10, [.ref q20, .int 0, w19])), (q1, .inr (11, [.ref q16, w6, w7, w8, w9, w10, w11, w12, w13, w14, w15]))] sz) := by
  refine ofH (by decide) (Nat.le_of_ble_eq_true rfl) rfl ?_
  intro p e s m args below meth c A ls hAe hsz hx hb hml hr hlocks hin hown hE hP hD hA hS hl htb hz
  have hown : s.vm.findClass RL = some m.cls := hown
  refine lv_aload_n hx hb dL_timeOf_0 rfl (lv_at hl 3 rfl) ?_
  refine lv_iconst (v := 0) hx hb dL_timeOf_1 (by decide) ?_
  refine lv_aload_n hx hb dL_timeOf_2 rfl (lv_at hl 0 rfl) ?_
  refine lv_iload_n hx hb dL_timeOf_3 rfl (lv_at hl 1 rfl) ?_
  refine lv_iload_n hx hb dL_timeOf_4 rfl (lv_at hl 2 rfl) ?_
  refine gx_i (wr := [(q37, .inl (g.2 0, 10, .inl f40)), (q36, .inl (g.2 0, 10, .inl f38)), (q31, .inr (9, [.ref q36, .ref q37, .int 1, .int 0])), (q23, .inr (8, [w24, .ref q31, w26, w27, w28, w29, w30])), (q20, .inl (g.2 3, 10, .inr (.inr (.inr (.inr f21))))), (q16, .inr (10, [.ref q20, .int 0, w19])), (q1, .inr (11, [.ref q16, w6, w7, w8, w9, w10, w11, w12, w13, w14, w15]))]) (rVx (rest := [.int 0, .ref q3]) hx hb hml hown hE hP hD hS hA hz 6 rfl rfl (c1797_X9_timeOf l g hlx q1 x2 h4 h42 s.heap.size) (kV_X9_timeOf hE (e962 hE) rfl rfl ⟨(Nat.le_of_ble_eq_true rfl), (Nat.le_of_ble_eq_true rfl)⟩) [] rfl (by decide) rfl hl.1 rfl (lv_room (Nat.le_of_ble_eq_true rfl)) dL_timeOf_5 ⟨(Nat.le_of_ble_eq_true rfl), (Nat.le_of_ble_eq_true rfl)⟩) hP hD hS hA [] [0, 1, 2, 3, 4, 5, 6] rfl rfl (by decide) (by decide) (fun ce9 q9 H locs hP hD hS hq1 hq2 hq3 => ?_)
  have hP : va_P g.1 vwCl [(q37, .inl (g.2 0, 10, .inl f40)), (q36, .inl (g.2 0, 10, .inl f38)), (q31, .inr (9, [.ref q36, .ref q37, .int 1, .int 0])), (q23, .inr (8, [w24, .ref q31, w26, w27, w28, w29, w30])), (q20, .inl (g.2 3, 10, .inr (.inr (.inr (.inr f21))))), (q16, .inr (10, [.ref q20, .int 0, w19])), (q1, .inr (11, [.ref q16, w6, w7, w8, w9, w10, w11, w12, w13, w14, w15]))] H := hP
  have hD : va_D A [(q37, .inl (g.2 0, 10, .inl f40)), (q36, .inl (g.2 0, 10, .inl f38)), (q31, .inr (9, [.ref q36, .ref q37, .int 1, .int 0])), (q23, .inr (8, [w24, .ref q31, w26, w27, w28, w29, w30])), (q20, .inl (g.2 3, 10, .inr (.inr (.inr (.inr f21))))), (q16, .inr (10, [.ref q20, .int 0, w19])), (q1, .inr (11, [.ref q16, w6, w7, w8, w9, w10, w11, w12, w13, w14, w15]))] := hD
  refine x_catch (name := "java/lang/IllegalArgumentException") (hh := [(0, 10, 13, 15)]) (tgt := 13) hown htb [] ⟨0, 10, 13, 15⟩ [] rfl (fun _ h => nomatch h) rfl (by decide) (e611 hE) (e641 hE) hq1 hq2 hq3 rfl ?_
  refine lv_astore (lv' := [(4, .ref q9), (0, .ref q1), (1, .int x2), (2, .int 0), (3, .ref q3)]) hx hb dL_timeOf_13 hl (by decide) rfl (fun ls hl => ?_)
  refine lv_iconst (v := 1) hx hb dL_timeOf_15 (by decide) ?_
  exact x_zret hx hb hr rfl rfl hlocks hP hD hS hAe hsz (Nat.le_of_ble_eq_true rfl) (Nat.le_of_ble_eq_true rfl) (fun _ => 0) [] (by decide) rfl dL_timeOf_16

set_option maxHeartbeats 4000000 in
set_option maxRecDepth 100000 in
theorem c1799_X10_timeOf (l : Launch) (g : gG) (q1 : Nat) (x2 : Int32) (w5 w6 w7 w8 w9 w10 w11 w12 w13 w14 w15 w16 w17 w18 w19 w20 w21 w22 w23 w24 w25 w26 w27 w28 w29 w30 w31 w32 w33 w34 w35 w36 w37 w38 w39 w40 w41 : Value) (h3 : (0 : Int32) ≤ x2) (h4 : (30000 : Int32) < x2) (sz : Nat) : Met l yX10_timeOf [Cond.code yX10_timeOf cX10_timeOf 3 (some .int)] ({ frames := 1, cells := 0, slots := 0, locals := 22 } : Room) (va_Pc [.ref q1, .int x2, .int 0] (PX g sz [(q1, .inr (12, [w5, w6, w7, w8, w9, w10, w11, w12, w13, w14, w15, w16, w17, w18, w19, w20, w21, w22, w23, w24, w25, w26, w27, w28, w29, w30, w31, w32, w33, w34, w35, w36, w37, w38, w39, w40, w41]))])) (QI g [(q1, .inr (12, [w5, w6, w7, w8, w9, w10, w11, w12, w13, w14, w15, w16, w17, w18, w19, w20, w21, w22, w23, w24, w25, w26, w27, w28, w29, w30, w31, w32, w33, w34, w35, w36, w37, w38, w39, w40, w41]))] sz 0 (fun _ => [(q1, .inr (12, [w5, w6, w7, w8, w9, w10, .int 1, w12, w13, w14, w15, w16, w17, w18, w19, w20, w21, w22, w23, w24, w25, w26, w27, w28, w29, w30, w31, w32, w33, w34, w35, w36, w37, w38, w39, w40, w41]))])) 0 0 (va_A [(q1, .inr (12, [w5, w6, w7, w8, w9, w10, w11, w12, w13, w14, w15, w16, w17, w18, w19, w20, w21, w22, w23, w24, w25, w26, w27, w28, w29, w30, w31, w32, w33, w34, w35, w36, w37, w38, w39, w40, w41]))] sz) := by
  refine ofN (by decide) (Nat.le_of_ble_eq_true rfl) rfl ?_
  intro p e s m args below meth c A ls hAe hsz hx hb hml hr hlocks hin hown hE hP hD hA hS hl
  have hown : s.vm.findClass RX10 = some m.cls := hown
  refine lv_aload_n hx hb dX10_timeOf_0 rfl (lv_at hl 0 rfl) ?_
  refine lv_iload_n hx hb dX10_timeOf_1 rfl (lv_at hl 1 rfl) ?_
  refine lv_iconst (v := 0) hx hb dX10_timeOf_2 (by decide) ?_
  refine lv_sipush (v := 30000) hx hb dX10_timeOf_3 (by decide) ?_
  refine g0_i (rS (rest := [.ref q1]) hx hb hml hown hE hP hD (c1730_X10_in l g x2 h3 h4 s.heap.size) (kS_X10_in hE (e1431 hE) rfl rfl ⟨(Nat.le_of_ble_eq_true rfl), (Nat.le_of_ble_eq_true rfl)⟩) [] rfl (by decide) rfl hl.1 rfl (lv_room (Nat.le_of_ble_eq_true rfl)) dX10_timeOf_6 ⟨(Nat.le_of_ble_eq_true rfl), (Nat.le_of_ble_eq_true rfl)⟩) hP hD hS hA (fun u9 H locs hP hS => ?_)
  refine lv_if_eq (tgt := 16) hx hb dX10_timeOf_9 (by decide) (fun _ => ?_) (fun h => absurd (by decide) h)
  refine lv_iconst (v := 1) hx hb dX10_timeOf_16 (by decide) ?_
  refine pf_RX10_86 (ws' := [(q1, .inr (12, [w5, w6, w7, w8, w9, w10, .int 1, w12, w13, w14, w15, w16, w17, w18, w19, w20, w21, w22, w23, w24, w25, w26, w27, w28, w29, w30, w31, w32, w33, w34, w35, w36, w37, w38, w39, w40, w41]))]) hx hb hown hE hP hD hS 0 rfl rfl rfl (Nat.le_of_ble_eq_true rfl) dX10_timeOf_17 rfl (fun H locs hP hD hS => ?_)
  refine lv_aload_n hx hb dX10_timeOf_20 rfl (lv_at hl 0 rfl) ?_
  refine gf_RX10_86 hx hb hown hE hP 0 rfl rfl dX10_timeOf_21 ?_
  refine lv_if_le (tgt := 31) hx hb dX10_timeOf_24 (by decide) (fun h => absurd h (by decide)) (fun _ => ?_)
  refine lv_iconst (v := 0) hx hb dX10_timeOf_27 (by decide) ?_
  refine lv_goto (tgt := 37) hx hb dX10_timeOf_28 (by decide) ?_
  exact x_zret hx hb hr rfl rfl hlocks hP hD hS hAe hsz (Nat.le_of_ble_eq_true rfl) (Nat.le_of_ble_eq_true rfl) (fun _ => 0) [0] (by decide) rfl dX10_timeOf_37

set_option maxHeartbeats 4000000 in
set_option maxRecDepth 100000 in
theorem c1800_X9_timeOf (l : Launch) (g : gG) (hlx : l.stackTraces = false) (q1 : Nat) (x2 : Int32) (h3 : x2 < 0) (sz : Nat) : vx_Met l yX9_timeOf [Cond.code yX9_timeOf cX9_timeOf 4 (some .int)] ({ frames := 7, cells := 1, slots := 6, locals := 122 } : Room) (va_Pc [.ref q1, .int x2, .int 1] (PZ g sz [])) NI (XW g [] sz "java/lang/IllegalArgumentException" []) 1 6 (va_A [] sz) := by
  refine ofX (by decide) (Nat.le_of_ble_eq_true rfl) rfl ?_
  intro p e s m args below meth c A ls hAe hsz hx hb hml hr hlocks hin hown hE hP hD hA hS hl hex hz
  have hown : s.vm.findClass RX9 = some m.cls := hown
  refine lv_iload_n hx hb dX9_timeOf_0 rfl (lv_at hl 1 rfl) ?_
  refine lv_iconst (v := 0) hx hb dX9_timeOf_1 (by decide) ?_
  refine lv_sipush (v := 30000) hx hb dX9_timeOf_2 (by decide) ?_
  refine gx_v (wr := []) (rSx (rest := []) hx hb hml hown hE hP hD hS hA hz (c639_X9_requireRange l g hlx x2 30000 h3 s.heap.size) (kS_X9_requireRange hE (e636 hE) rfl rfl ⟨(Nat.le_of_ble_eq_true rfl), (Nat.le_of_ble_eq_true rfl)⟩) [] rfl (by decide) rfl hl.1 rfl (lv_room (Nat.le_of_ble_eq_true rfl)) dX9_timeOf_5 ⟨(Nat.le_of_ble_eq_true rfl), (Nat.le_of_ble_eq_true rfl)⟩) hP hD hS hA [] [] rfl rfl (by decide) (by decide) (fun ce9 q9 H locs hP hD hS hq1 hq2 hq3 => ?_)
  exact x_out hex hlocks hq1 hq2 hq3 hP hD hS hAe hsz (Nat.le_of_ble_eq_true rfl) (Nat.le_of_ble_eq_true rfl) [] (by decide) rfl

set_option maxHeartbeats 4000000 in
set_option maxRecDepth 100000 in
theorem c1801_L_timeOf (l : Launch) (g : gG) (hlx : l.stackTraces = false) (q1 q3 : Nat) (x2 : Int32) (w5 w6 w7 w8 w9 w10 w11 w12 w13 w14 w15 : Value) (h4 : x2 < 0) (sz : Nat) : Met l yL_timeOf [Cond.codeWith yL_timeOf cL_timeOf 5 (some .int) [(0, 10, 13, 15)]] ({ frames := 8, cells := 1, slots := 6, locals := 145 } : Room) (va_Pc [.ref q1, .int x2, .int 1, .ref q3] (PZ g sz [(q1, .inr (11, [w5, w6, w7, w8, w9, w10, w11, w12, w13, w14, w15]))])) (QI g [(q1, .inr (11, [w5, w6, w7, w8, w9, w10, w11, w12, w13, w14, w15]))] sz 1 (fun _ => [])) 1 6 (va_A [(q1, .inr (11, [w5, w6, w7, w8, w9, w10, w11, w12, w13, w14, w15]))] sz) := by
  refine ofH (by decide) (Nat.le_of_ble_eq_true rfl) rfl ?_
  intro p e s m args below meth c A ls hAe hsz hx hb hml hr hlocks hin hown hE hP hD hA hS hl htb hz
  have hown : s.vm.findClass RL = some m.cls := hown
  refine lv_aload_n hx hb dL_timeOf_0 rfl (lv_at hl 3 rfl) ?_
  refine lv_iconst (v := 0) hx hb dL_timeOf_1 (by decide) ?_
  refine lv_aload_n hx hb dL_timeOf_2 rfl (lv_at hl 0 rfl) ?_
  refine lv_iload_n hx hb dL_timeOf_3 rfl (lv_at hl 1 rfl) ?_
  refine lv_iload_n hx hb dL_timeOf_4 rfl (lv_at hl 2 rfl) ?_
  refine gx_i (wr := [(q1, .inr (11, [w5, w6, w7, w8, w9, w10, w11, w12, w13, w14, w15]))]) (rVx (rest := [.int 0, .ref q3]) hx hb hml hown hE hP hD hS hA hz 0 rfl rfl (c1800_X9_timeOf l g hlx q1 x2 h4 s.heap.size) (kV_X9_timeOf hE (e962 hE) rfl rfl ⟨(Nat.le_of_ble_eq_true rfl), (Nat.le_of_ble_eq_true rfl)⟩) [] rfl (by decide) rfl hl.1 rfl (lv_room (Nat.le_of_ble_eq_true rfl)) dL_timeOf_5 ⟨(Nat.le_of_ble_eq_true rfl), (Nat.le_of_ble_eq_true rfl)⟩) hP hD hS hA [] [0] rfl rfl (by decide) (by decide) (fun ce9 q9 H locs hP hD hS hq1 hq2 hq3 => ?_)
  have hP : va_P g.1 vwCl [(q1, .inr (11, [w5, w6, w7, w8, w9, w10, w11, w12, w13, w14, w15]))] H := hP
  have hD : va_D A [(q1, .inr (11, [w5, w6, w7, w8, w9, w10, w11, w12, w13, w14, w15]))] := hD
  refine x_catch (name := "java/lang/IllegalArgumentException") (hh := [(0, 10, 13, 15)]) (tgt := 13) hown htb [] ⟨0, 10, 13, 15⟩ [] rfl (fun _ h => nomatch h) rfl (by decide) (e611 hE) (e641 hE) hq1 hq2 hq3 rfl ?_
  refine lv_astore (lv' := [(4, .ref q9), (0, .ref q1), (1, .int x2), (2, .int 1), (3, .ref q3)]) hx hb dL_timeOf_13 hl (by decide) rfl (fun ls hl => ?_)
  refine lv_iconst (v := 1) hx hb dL_timeOf_15 (by decide) ?_
  exact x_zret hx hb hr rfl rfl hlocks hP hD hS hAe hsz (Nat.le_of_ble_eq_true rfl) (Nat.le_of_ble_eq_true rfl) (fun _ => 0) [] (by decide) rfl dL_timeOf_16

set_option maxHeartbeats 4000000 in
set_option maxRecDepth 100000 in
theorem c1802_X10_timeOf (l : Launch) (g : gG) (q1 : Nat) (x2 : Int32) (w4 w5 w6 w7 w8 w9 w10 w11 w12 w13 w14 w15 w16 w17 w18 w19 w20 w21 w22 w23 w24 w25 w26 w27 w28 w29 w30 w31 w32 w33 w34 w35 w36 w37 w38 w39 w40 : Value) (h3 : x2 < 0) (sz : Nat) : Met l yX10_timeOf [Cond.code yX10_timeOf cX10_timeOf 3 (some .int)] ({ frames := 1, cells := 0, slots := 0, locals := 22 } : Room) (va_Pc [.ref q1, .int x2, .int 1] (PX g sz [(q1, .inr (12, [w4, w5, w6, w7, w8, w9, w10, w11, w12, w13, w14, w15, w16, w17, w18, w19, w20, w21, w22, w23, w24, w25, w26, w27, w28, w29, w30, w31, w32, w33, w34, w35, w36, w37, w38, w39, w40]))])) (QI g [(q1, .inr (12, [w4, w5, w6, w7, w8, w9, w10, w11, w12, w13, w14, w15, w16, w17, w18, w19, w20, w21, w22, w23, w24, w25, w26, w27, w28, w29, w30, w31, w32, w33, w34, w35, w36, w37, w38, w39, w40]))] sz 0 (fun _ => [(q1, .inr (12, [w4, w5, w6, w7, w8, w9, .int 1, w11, w12, w13, w14, w15, w16, w17, w18, w19, w20, w21, w22, w23, w24, w25, w26, w27, w28, w29, w30, w31, w32, w33, w34, w35, w36, w37, w38, w39, w40]))])) 0 0 (va_A [(q1, .inr (12, [w4, w5, w6, w7, w8, w9, w10, w11, w12, w13, w14, w15, w16, w17, w18, w19, w20, w21, w22, w23, w24, w25, w26, w27, w28, w29, w30, w31, w32, w33, w34, w35, w36, w37, w38, w39, w40]))] sz) := by
  refine ofN (by decide) (Nat.le_of_ble_eq_true rfl) rfl ?_
  intro p e s m args below meth c A ls hAe hsz hx hb hml hr hlocks hin hown hE hP hD hA hS hl
  have hown : s.vm.findClass RX10 = some m.cls := hown
  refine lv_aload_n hx hb dX10_timeOf_0 rfl (lv_at hl 0 rfl) ?_
  refine lv_iload_n hx hb dX10_timeOf_1 rfl (lv_at hl 1 rfl) ?_
  refine lv_iconst (v := 0) hx hb dX10_timeOf_2 (by decide) ?_
  refine lv_sipush (v := 30000) hx hb dX10_timeOf_3 (by decide) ?_
  refine g0_i (rS (rest := [.ref q1]) hx hb hml hown hE hP hD (c642_X10_in l g x2 30000 h3 s.heap.size) (kS_X10_in hE (e1431 hE) rfl rfl ⟨(Nat.le_of_ble_eq_true rfl), (Nat.le_of_ble_eq_true rfl)⟩) [] rfl (by decide) rfl hl.1 rfl (lv_room (Nat.le_of_ble_eq_true rfl)) dX10_timeOf_6 ⟨(Nat.le_of_ble_eq_true rfl), (Nat.le_of_ble_eq_true rfl)⟩) hP hD hS hA (fun u9 H locs hP hS => ?_)
  refine lv_if_eq (tgt := 16) hx hb dX10_timeOf_9 (by decide) (fun _ => ?_) (fun h => absurd (by decide) h)
  refine lv_iconst (v := 1) hx hb dX10_timeOf_16 (by decide) ?_
  refine pf_RX10_86 (ws' := [(q1, .inr (12, [w4, w5, w6, w7, w8, w9, .int 1, w11, w12, w13, w14, w15, w16, w17, w18, w19, w20, w21, w22, w23, w24, w25, w26, w27, w28, w29, w30, w31, w32, w33, w34, w35, w36, w37, w38, w39, w40]))]) hx hb hown hE hP hD hS 0 rfl rfl rfl (Nat.le_of_ble_eq_true rfl) dX10_timeOf_17 rfl (fun H locs hP hD hS => ?_)
  refine lv_aload_n hx hb dX10_timeOf_20 rfl (lv_at hl 0 rfl) ?_
  refine gf_RX10_86 hx hb hown hE hP 0 rfl rfl dX10_timeOf_21 ?_
  refine lv_if_le (tgt := 31) hx hb dX10_timeOf_24 (by decide) (fun h => absurd h (by decide)) (fun _ => ?_)
  refine lv_iconst (v := 0) hx hb dX10_timeOf_27 (by decide) ?_
  refine lv_goto (tgt := 37) hx hb dX10_timeOf_28 (by decide) ?_
  exact x_zret hx hb hr rfl rfl hlocks hP hD hS hAe hsz (Nat.le_of_ble_eq_true rfl) (Nat.le_of_ble_eq_true rfl) (fun _ => 0) [0] (by decide) rfl dX10_timeOf_37

set_option maxHeartbeats 4000000 in
set_option maxRecDepth 100000 in
theorem c1803_X9_timeOf (l : Launch) (g : gG) (q1 q16 q20 q23 q31 q36 : Nat) (x2 : Int32) (w6 w7 w8 w9 w10 w11 w12 w13 w14 w15 w19 w24 w26 w27 w28 w29 w30 w33 w35 : Value) (f21 : Nat → Option Nat) (f37 : Nat → Int32) (hf22 : f21 0 = some q23) (hf38 : f37 0 = 0) (h3 : (0 : Int32) ≤ x2) (h4 : x2 ≤ 30000) (h39 : x2 ≤ 0) (sz : Nat) : Met l yX9_timeOf [Cond.code yX9_timeOf cX9_timeOf 4 (some .int)] ({ frames := 2, cells := 0, slots := 0, locals := 46 } : Room) (va_Pc [.ref q1, .int x2, .int 1] (PX g sz [(q36, .inl (g.2 0, 10, .inl f37)), (q31, .inr (9, [.ref q36, w33, .int 1, w35])), (q23, .inr (8, [w24, .ref q31, w26, w27, w28, w29, w30])), (q20, .inl (g.2 3, 10, .inr (.inr (.inr (.inr f21))))), (q16, .inr (10, [.ref q20, .int 0, w19])), (q1, .inr (11, [.ref q16, w6, w7, w8, w9, w10, w11, w12, w13, w14, w15]))])) (QI g [(q36, .inl (g.2 0, 10, .inl f37)), (q31, .inr (9, [.ref q36, w33, .int 1, w35])), (q23, .inr (8, [w24, .ref q31, w26, w27, w28, w29, w30])), (q20, .inl (g.2 3, 10, .inr (.inr (.inr (.inr f21))))), (q16, .inr (10, [.ref q20, .int 0, w19])), (q1, .inr (11, [.ref q16, w6, w7, w8, w9, w10, w11, w12, w13, w14, w15]))] sz 0 (fun _ => [(q23, .inr (8, [w24, .ref q31, w26, w27, w28, w29, w30])), (q1, .inr (11, [.ref q16, w6, w7, w8, w9, w10, w11, w12, w13, w14, w15])), (q20, .inl (g.2 3, 10, .inr (.inr (.inr (.inr f21))))), (q16, .inr (10, [.ref q20, .int 0, w19])), (q36, .inl (g.2 0, 10, .inl f37)), (q31, .inr (9, [.ref q36, w33, .int 1, w35]))])) 0 0 (va_A [(q36, .inl (g.2 0, 10, .inl f37)), (q31, .inr (9, [.ref q36, w33, .int 1, w35])), (q23, .inr (8, [w24, .ref q31, w26, w27, w28, w29, w30])), (q20, .inl (g.2 3, 10, .inr (.inr (.inr (.inr f21))))), (q16, .inr (10, [.ref q20, .int 0, w19])), (q1, .inr (11, [.ref q16, w6, w7, w8, w9, w10, w11, w12, w13, w14, w15]))] sz) := by
  refine ofN (by decide) (Nat.le_of_ble_eq_true rfl) rfl ?_
  intro p e s m args below meth c A ls hAe hsz hx hb hml hr hlocks hin hown hE hP hD hA hS hl
  have hown : s.vm.findClass RX9 = some m.cls := hown
  refine lv_iload_n hx hb dX9_timeOf_0 rfl (lv_at hl 1 rfl) ?_
  refine lv_iconst (v := 0) hx hb dX9_timeOf_1 (by decide) ?_
  refine lv_sipush (v := 30000) hx hb dX9_timeOf_2 (by decide) ?_
  refine g0_v (rS (rest := []) hx hb hml hown hE hP hD (c1699_X9_requireRange l g x2 h3 h4 s.heap.size) (kS_X9_requireRange hE (e636 hE) rfl rfl ⟨(Nat.le_of_ble_eq_true rfl), (Nat.le_of_ble_eq_true rfl)⟩) [] rfl (by decide) rfl hl.1 rfl (lv_room (Nat.le_of_ble_eq_true rfl)) dX9_timeOf_5 ⟨(Nat.le_of_ble_eq_true rfl), (Nat.le_of_ble_eq_true rfl)⟩) hP hD hS hA (fun u9 H locs hP hS => ?_)
  refine lv_aload_n hx hb dX9_timeOf_8 rfl (lv_at hl 0 rfl) ?_
  refine gf_RX9_12 hx hb hown hE hP 5 rfl rfl dX9_timeOf_9 ?_
  refine g_r (wr := [(q36, .inl (g.2 0, 10, .inl f37)), (q31, .inr (9, [.ref q36, w33, .int 1, w35])), (q23, .inr (8, [w24, .ref q31, w26, w27, w28, w29, w30])), (q1, .inr (11, [.ref q16, w6, w7, w8, w9, w10, w11, w12, w13, w14, w15]))]) (rV (rest := []) hx hb hml hown hE hP hD 4 rfl rfl (c71_X8_current l g q16 q20 q23 w19 f21 (hf22) H.size) (kV_X8_current hE (e290 hE) rfl rfl ⟨(Nat.le_of_ble_eq_true rfl), (Nat.le_of_ble_eq_true rfl)⟩) [3, 4] rfl (by decide) rfl hl.1 rfl (lv_room (Nat.le_of_ble_eq_true rfl)) dX9_timeOf_12 ⟨(Nat.le_of_ble_eq_true rfl), (Nat.le_of_ble_eq_true rfl)⟩) hP hD hS hA [3, 4] [0, 1, 2, 5] rfl rfl (by decide) (by decide) (fun u2 H locs hP hD hS => ?_)
  have hP : va_P g.1 vwCl [(q36, .inl (g.2 0, 10, .inl f37)), (q31, .inr (9, [.ref q36, w33, .int 1, w35])), (q23, .inr (8, [w24, .ref q31, w26, w27, w28, w29, w30])), (q1, .inr (11, [.ref q16, w6, w7, w8, w9, w10, w11, w12, w13, w14, w15])), (q20, .inl (g.2 3, 10, .inr (.inr (.inr (.inr f21))))), (q16, .inr (10, [.ref q20, .int 0, w19]))] H := hP
  have hD : va_D A [(q36, .inl (g.2 0, 10, .inl f37)), (q31, .inr (9, [.ref q36, w33, .int 1, w35])), (q23, .inr (8, [w24, .ref q31, w26, w27, w28, w29, w30])), (q1, .inr (11, [.ref q16, w6, w7, w8, w9, w10, w11, w12, w13, w14, w15])), (q20, .inl (g.2 3, 10, .inr (.inr (.inr (.inr f21))))), (q16, .inr (10, [.ref q20, .int 0, w19]))] := hD
  refine gf_RX9_193 hx hb hown hE hP 2 rfl rfl dX9_timeOf_15 ?_
  refine lv_astore_n (lv' := [(3, .ref q31), (0, .ref q1), (1, .int x2), (2, .int 1)]) hx hb dX9_timeOf_18 rfl hl (by decide) rfl (fun ls hl => ?_)
  refine lv_iload_n hx hb dX9_timeOf_19 rfl (lv_at hl 3 rfl) ?_
  refine lv_if_eq (tgt := 31) hx hb dX9_timeOf_20 (by decide) (fun h => absurd h (by decide)) (fun _ => ?_)
  refine lv_aload_n hx hb dX9_timeOf_23 rfl (lv_at hl 0 rfl) ?_
  refine lv_iload_n hx hb dX9_timeOf_24 rfl (lv_at hl 2 rfl) ?_
  refine g_i (wr := [(q23, .inr (8, [w24, .ref q31, w26, w27, w28, w29, w30])), (q1, .inr (11, [.ref q16, w6, w7, w8, w9, w10, w11, w12, w13, w14, w15])), (q20, .inl (g.2 3, 10, .inr (.inr (.inr (.inr f21))))), (q16, .inr (10, [.ref q20, .int 0, w19]))]) (rV (rest := []) hx hb hml hown hE hP hD 1 rfl rfl (c1780_X7_plainTime l g q31 q36 x2 w33 w35 f37 (hf38) h39 H.size) (kV_X7_plainTime hE (e966 hE) rfl rfl ⟨(Nat.le_of_ble_eq_true rfl), (Nat.le_of_ble_eq_true rfl)⟩) [0, 1] rfl (by decide) rfl hl.1 rfl (lv_room (Nat.le_of_ble_eq_true rfl)) dX9_timeOf_25 ⟨(Nat.le_of_ble_eq_true rfl), (Nat.le_of_ble_eq_true rfl)⟩) hP hD hS hA [0, 1] [2, 3, 4, 5] rfl rfl (by decide) (by decide) (fun u3 H locs hP hD hS => ?_)
  have hP : va_P g.1 vwCl [(q23, .inr (8, [w24, .ref q31, w26, w27, w28, w29, w30])), (q1, .inr (11, [.ref q16, w6, w7, w8, w9, w10, w11, w12, w13, w14, w15])), (q20, .inl (g.2 3, 10, .inr (.inr (.inr (.inr f21))))), (q16, .inr (10, [.ref q20, .int 0, w19])), (q36, .inl (g.2 0, 10, .inl f37)), (q31, .inr (9, [.ref q36, w33, .int 1, w35]))] H := hP
  have hD : va_D A [(q23, .inr (8, [w24, .ref q31, w26, w27, w28, w29, w30])), (q1, .inr (11, [.ref q16, w6, w7, w8, w9, w10, w11, w12, w13, w14, w15])), (q20, .inl (g.2 3, 10, .inr (.inr (.inr (.inr f21))))), (q16, .inr (10, [.ref q20, .int 0, w19])), (q36, .inl (g.2 0, 10, .inl f37)), (q31, .inr (9, [.ref q36, w33, .int 1, w35]))] := hD
  refine lv_goto (tgt := 36) hx hb dX9_timeOf_28 (by decide) ?_
  exact x_zret hx hb hr rfl rfl hlocks hP hD hS hAe hsz (Nat.le_of_ble_eq_true rfl) (Nat.le_of_ble_eq_true rfl) (fun _ => 0) [0, 1, 2, 3, 4, 5] (by decide) rfl dX9_timeOf_36

set_option maxHeartbeats 4000000 in
set_option maxRecDepth 100000 in
theorem c1804_L_timeOf (l : Launch) (g : gG) (hlx : l.stackTraces = false) (q1 q3 q17 q21 q24 q32 q37 : Nat) (x2 : Int32) (w7 w8 w9 w10 w11 w12 w13 w14 w15 w16 w20 w25 w27 w28 w29 w30 w31 w34 w36 : Value) (f22 : Nat → Option Nat) (f38 : Nat → Int32) (f41 : Nat → Int64) (hf23 : f22 0 = some q24) (hf39 : f38 0 = 0) (h4 : (0 : Int32) ≤ x2) (h5 : x2 ≤ 30000) (h40 : x2 ≤ 0) (sz : Nat) : Met l yL_timeOf [Cond.codeWith yL_timeOf cL_timeOf 5 (some .int) [(0, 10, 13, 15)]] ({ frames := 3, cells := 0, slots := 0, locals := 69 } : Room) (va_Pc [.ref q1, .int x2, .int 1, .ref q3] (PZ g sz [(q3, .inl (g.2 1, 1, .inr (.inl f41))), (q37, .inl (g.2 0, 10, .inl f38)), (q32, .inr (9, [.ref q37, w34, .int 1, w36])), (q24, .inr (8, [w25, .ref q32, w27, w28, w29, w30, w31])), (q21, .inl (g.2 3, 10, .inr (.inr (.inr (.inr f22))))), (q17, .inr (10, [.ref q21, .int 0, w20])), (q1, .inr (11, [.ref q17, w7, w8, w9, w10, w11, w12, w13, w14, w15, w16]))])) (QI g [(q3, .inl (g.2 1, 1, .inr (.inl f41))), (q37, .inl (g.2 0, 10, .inl f38)), (q32, .inr (9, [.ref q37, w34, .int 1, w36])), (q24, .inr (8, [w25, .ref q32, w27, w28, w29, w30, w31])), (q21, .inl (g.2 3, 10, .inr (.inr (.inr (.inr f22))))), (q17, .inr (10, [.ref q21, .int 0, w20])), (q1, .inr (11, [.ref q17, w7, w8, w9, w10, w11, w12, w13, w14, w15, w16]))] sz 0 (fun _ => [(q3, .inl (g.2 1, 1, .inr (.inl (vp_updL f41 0 0))))])) 0 0 (va_A [(q3, .inl (g.2 1, 1, .inr (.inl f41))), (q37, .inl (g.2 0, 10, .inl f38)), (q32, .inr (9, [.ref q37, w34, .int 1, w36])), (q24, .inr (8, [w25, .ref q32, w27, w28, w29, w30, w31])), (q21, .inl (g.2 3, 10, .inr (.inr (.inr (.inr f22))))), (q17, .inr (10, [.ref q21, .int 0, w20])), (q1, .inr (11, [.ref q17, w7, w8, w9, w10, w11, w12, w13, w14, w15, w16]))] sz) := by
  refine ofH (by decide) (Nat.le_of_ble_eq_true rfl) rfl ?_
  intro p e s m args below meth c A ls hAe hsz hx hb hml hr hlocks hin hown hE hP hD hA hS hl htb hz
  have hown : s.vm.findClass RL = some m.cls := hown
  refine lv_aload_n hx hb dL_timeOf_0 rfl (lv_at hl 3 rfl) ?_
  refine lv_iconst (v := 0) hx hb dL_timeOf_1 (by decide) ?_
  refine lv_aload_n hx hb dL_timeOf_2 rfl (lv_at hl 0 rfl) ?_
  refine lv_iload_n hx hb dL_timeOf_3 rfl (lv_at hl 1 rfl) ?_
  refine lv_iload_n hx hb dL_timeOf_4 rfl (lv_at hl 2 rfl) ?_
  refine g_i (wr := [(q3, .inl (g.2 1, 1, .inr (.inl f41)))]) (rV (rest := [.int 0, .ref q3]) hx hb hml hown hE hP hD 6 rfl rfl (c1803_X9_timeOf l g q1 q17 q21 q24 q32 q37 x2 w7 w8 w9 w10 w11 w12 w13 w14 w15 w16 w20 w25 w27 w28 w29 w30 w31 w34 w36 f22 f38 (hf23) (hf39) h4 h5 h40 s.heap.size) (kV_X9_timeOf hE (e962 hE) rfl rfl ⟨(Nat.le_of_ble_eq_true rfl), (Nat.le_of_ble_eq_true rfl)⟩) [1, 2, 3, 4, 5, 6] rfl (by decide) rfl hl.1 rfl (lv_room (Nat.le_of_ble_eq_true rfl)) dL_timeOf_5 ⟨(Nat.le_of_ble_eq_true rfl), (Nat.le_of_ble_eq_true rfl)⟩) hP hD hS hA [1, 2, 3, 4, 5, 6] [0] rfl rfl (by decide) (by decide) (fun u1 H locs hP hD hS => ?_)
  have hP : va_P g.1 vwCl [(q3, .inl (g.2 1, 1, .inr (.inl f41))), (q24, .inr (8, [w25, .ref q32, w27, w28, w29, w30, w31])), (q1, .inr (11, [.ref q17, w7, w8, w9, w10, w11, w12, w13, w14, w15, w16])), (q21, .inl (g.2 3, 10, .inr (.inr (.inr (.inr f22))))), (q17, .inr (10, [.ref q21, .int 0, w20])), (q37, .inl (g.2 0, 10, .inl f38)), (q32, .inr (9, [.ref q37, w34, .int 1, w36]))] H := hP
  have hD : va_D A [(q3, .inl (g.2 1, 1, .inr (.inl f41))), (q24, .inr (8, [w25, .ref q32, w27, w28, w29, w30, w31])), (q1, .inr (11, [.ref q17, w7, w8, w9, w10, w11, w12, w13, w14, w15, w16])), (q21, .inl (g.2 3, 10, .inr (.inr (.inr (.inr f22))))), (q17, .inr (10, [.ref q21, .int 0, w20])), (q37, .inl (g.2 0, 10, .inl f38)), (q32, .inr (9, [.ref q37, w34, .int 1, w36]))] := hD
  refine lv_i2l (v := 0) hx hb dL_timeOf_8 (by decide) ?_
  refine x_last (ws' := [(q3, .inl (g.2 1, 1, .inr (.inl (vp_updL f41 0 0)))), (q24, .inr (8, [w25, .ref q32, w27, w28, w29, w30, w31])), (q1, .inr (11, [.ref q17, w7, w8, w9, w10, w11, w12, w13, w14, w15, w16])), (q21, .inl (g.2 3, 10, .inr (.inr (.inr (.inr f22))))), (q17, .inr (10, [.ref q21, .int 0, w20])), (q37, .inl (g.2 0, 10, .inl f38)), (q32, .inr (9, [.ref q37, w34, .int 1, w36]))]) hx hb hE hP hD hS 0 rfl 0 (x_in (by decide)) (by decide) dL_timeOf_9 rfl (fun H locs hP hD hS => ?_)
  refine lv_goto (tgt := 17) hx hb dL_timeOf_10 (by decide) ?_
  refine lv_iconst (v := 0) hx hb dL_timeOf_17 (by decide) ?_
  exact x_zret hx hb hr rfl rfl hlocks hP hD hS hAe hsz (Nat.le_of_ble_eq_true rfl) (Nat.le_of_ble_eq_true rfl) (fun _ => 0) [0] (by decide) rfl dL_timeOf_18

set_option maxHeartbeats 4000000 in
set_option maxRecDepth 100000 in
theorem c1805_X10_time (l : Launch) (g : gG) (q1 q40 : Nat) (x2 : Int32) (w4 w5 w6 w7 w8 w9 w10 w11 w12 w13 w14 w15 w16 w17 w18 w19 w20 w21 w22 w23 w24 w25 w26 w27 w28 w29 w30 w31 w32 w33 w34 w35 w36 w37 w38 w39 : Value) (f41 : Nat → Int32) (hf42 : f41 453 = 1) (hf43 : f41 454 = 0) (hf45 : f41 455 = 100) (h44 : x2 ≤ 0) (sz : Nat) : Met l yX10_time [Cond.code yX10_time cX10_time 7 (some .int)] ({ frames := 1, cells := 0, slots := 0, locals := 24 } : Room) (va_Pc [.ref q1, .int x2, .int 1] (PX g sz [(q40, .inl (g.2 0, 497, .inl f41)), (q1, .inr (12, [.ref q40, w4, w5, w6, w7, w8, w9, w10, w11, w12, w13, w14, w15, w16, w17, w18, w19, w20, w21, w22, w23, w24, w25, w26, w27, w28, w29, w30, w31, w32, w33, w34, w35, w36, w37, w38, w39]))])) (QI g [(q40, .inl (g.2 0, 497, .inl f41)), (q1, .inr (12, [.ref q40, w4, w5, w6, w7, w8, w9, w10, w11, w12, w13, w14, w15, w16, w17, w18, w19, w20, w21, w22, w23, w24, w25, w26, w27, w28, w29, w30, w31, w32, w33, w34, w35, w36, w37, w38, w39]))] sz 0 (fun _ => [(q40, .inl (g.2 0, 497, .inl f41)), (q1, .inr (12, [.ref q40, w4, w5, w6, w7, w8, w9, w10, w11, w12, w13, w14, w15, w16, w17, w18, w19, w20, w21, w22, w23, w24, w25, w26, w27, w28, w29, w30, w31, w32, w33, w34, w35, w36, w37, w38, w39]))])) 0 0 (va_A [(q40, .inl (g.2 0, 497, .inl f41)), (q1, .inr (12, [.ref q40, w4, w5, w6, w7, w8, w9, w10, w11, w12, w13, w14, w15, w16, w17, w18, w19, w20, w21, w22, w23, w24, w25, w26, w27, w28, w29, w30, w31, w32, w33, w34, w35, w36, w37, w38, w39]))] sz) := by
  refine ofN (by decide) (Nat.le_of_ble_eq_true rfl) rfl ?_
  intro p e s m args below meth c A ls hAe hsz hx hb hml hr hlocks hin hown hE hP hD hA hS hl
  have hown : s.vm.findClass RX10 = some m.cls := hown
  refine lv_iconst (v := 0) hx hb dX10_time_0 (by decide) ?_
  refine lv_istore_n (lv' := [(3, .int 0), (0, .ref q1), (1, .int x2), (2, .int 1)]) hx hb dX10_time_1 rfl hl (by decide) rfl (fun ls hl => ?_)
  refine lv_iconst (v := 0) hx hb dX10_time_2 (by decide) ?_
  refine lv_istore (lv' := [(4, .int 0), (3, .int 0), (0, .ref q1), (1, .int x2), (2, .int 1)]) hx hb dX10_time_3 hl (by decide) rfl (fun ls hl => ?_)
  refine lv_iload hx hb dX10_time_5 (lv_at hl 0 rfl) ?_
  refine lv_aload_n hx hb dX10_time_7 rfl (lv_at hl 2 rfl) ?_
  refine gf_RX10_9 hx hb hown hE hP 1 rfl rfl dX10_time_8 ?_
  refine lv_sipush (v := 453) hx hb dX10_time_11 (by decide) ?_
  refine x_iald (v := 1) hx hb hE hP 0 rfl 453 (x_in (by decide)) (by decide) hf42 dX10_time_14 ?_
  refine lv_icmp_ge (tgt := 107) hx hb dX10_time_15 (by decide) (fun h => absurd h (by decide)) (fun _ => ?_)
  refine lv_aload_n hx hb dX10_time_18 rfl (lv_at hl 2 rfl) ?_
  refine gf_RX10_9 hx hb hown hE hP 1 rfl rfl dX10_time_19 ?_
  refine lv_sipush (v := 454) hx hb dX10_time_22 (by decide) ?_
  refine lv_iconst (v := 2) hx hb dX10_time_25 (by decide) ?_
  refine lv_iload hx hb dX10_time_26 (lv_at hl 0 rfl) ?_
  refine x_imul (v := 0) hx hb dX10_time_28 (by decide) ?_
  refine x_iadd (v := 454) hx hb dX10_time_29 (by decide) ?_
  refine x_iald (v := 0) hx hb hE hP 0 rfl 454 (x_in (by decide)) (by decide) hf43 dX10_time_30 ?_
  refine lv_istore (lv' := [(5, .int 0), (4, .int 0), (3, .int 0), (0, .ref q1), (1, .int x2), (2, .int 1)]) hx hb dX10_time_31 hl (by decide) rfl (fun ls hl => ?_)
  refine lv_iload hx hb dX10_time_33 (lv_at hl 1 rfl) ?_
  refine lv_iconst (v := 1) hx hb dX10_time_35 (by decide) ?_
  refine x_iadd (v := 1) hx hb dX10_time_36 (by decide) ?_
  refine lv_aload_n hx hb dX10_time_37 rfl (lv_at hl 3 rfl) ?_
  refine gf_RX10_9 hx hb hown hE hP 1 rfl rfl dX10_time_38 ?_
  refine lv_sipush (v := 453) hx hb dX10_time_41 (by decide) ?_
  refine x_iald (v := 1) hx hb hE hP 0 rfl 453 (x_in (by decide)) (by decide) hf42 dX10_time_44 ?_
  refine lv_icmp_ge (tgt := 70) hx hb dX10_time_45 (by decide) (fun _ => ?_) (fun h => absurd (by decide) h)
  refine lv_iload_n hx hb dX10_time_70 rfl (lv_at hl 4 rfl) ?_
  refine lv_istore (lv' := [(6, .int x2), (5, .int 0), (4, .int 0), (3, .int 0), (0, .ref q1), (1, .int x2), (2, .int 1)]) hx hb dX10_time_71 hl (by decide) rfl (fun ls hl => ?_)
  refine lv_iload_n hx hb dX10_time_73 rfl (lv_at hl 3 rfl) ?_
  refine lv_iconst (v := 0) hx hb dX10_time_74 (by decide) ?_
  refine lv_iload hx hb dX10_time_75 (lv_at hl 0 rfl) ?_
  refine lv_iload hx hb dX10_time_77 (lv_at hl 1 rfl) ?_
  refine x_isub (v := x2) hx hb dX10_time_79 (Int32.sub_zero _) ?_
  refine x_mmax (v := 0) hx hb (by rw [hml]; exact hl.1.symm) hown (e1506 hE) (e165 hE) (e9 hE) (e166 hE) (Nat.le_of_ble_eq_true rfl) (Nat.le_of_ble_eq_true rfl) (Nat.le_of_ble_eq_true rfl) (Nat.le_of_ble_eq_true rfl) (if_neg (i_nlt h44)) dX10_time_80 ?_
  refine lv_aload_n hx hb dX10_time_83 rfl (lv_at hl 4 rfl) ?_
  refine gf_RX10_9 hx hb hown hE hP 1 rfl rfl dX10_time_84 ?_
  refine lv_sipush (v := 454) hx hb dX10_time_87 (by decide) ?_
  refine lv_iconst (v := 2) hx hb dX10_time_90 (by decide) ?_
  refine lv_iload hx hb dX10_time_91 (lv_at hl 2 rfl) ?_
  refine x_imul (v := 0) hx hb dX10_time_93 (by decide) ?_
  refine x_iadd (v := 454) hx hb dX10_time_94 (by decide) ?_
  refine lv_iconst (v := 1) hx hb dX10_time_95 (by decide) ?_
  refine x_iadd (v := 455) hx hb dX10_time_96 (by decide) ?_
  refine x_iald (v := 100) hx hb hE hP 0 rfl 455 (x_in (by decide)) (by decide) hf45 dX10_time_97 ?_
  refine x_imul (v := 0) hx hb dX10_time_98 (by decide) ?_
  refine x_iadd (v := 0) hx hb dX10_time_99 (by decide) ?_
  refine lv_istore_n (lv' := [(3, .int 0), (6, .int x2), (5, .int 0), (4, .int 0), (0, .ref q1), (1, .int x2), (2, .int 1)]) hx hb dX10_time_100 rfl hl (by decide) rfl (fun ls hl => ?_)
  refine lv_iinc (v := 1) (lv' := [(4, .int 1), (3, .int 0), (6, .int x2), (5, .int 0), (0, .ref q1), (1, .int x2), (2, .int 1)]) hx hb dX10_time_101 hl (k := 3) rfl (by decide) (by decide) rfl (fun ls hl => ?_)
  refine lv_goto (tgt := 5) hx hb dX10_time_104 (by decide) ?_
  refine lv_iload hx hb dX10_time_5 (lv_at hl 0 rfl) ?_
  refine lv_aload_n hx hb dX10_time_7 rfl (lv_at hl 4 rfl) ?_
  refine gf_RX10_9 hx hb hown hE hP 1 rfl rfl dX10_time_8 ?_
  refine lv_sipush (v := 453) hx hb dX10_time_11 (by decide) ?_
  refine x_iald (v := 1) hx hb hE hP 0 rfl 453 (x_in (by decide)) (by decide) hf42 dX10_time_14 ?_
  refine lv_icmp_ge (tgt := 107) hx hb dX10_time_15 (by decide) (fun _ => ?_) (fun h => absurd (by decide) h)
  refine lv_iload_n hx hb dX10_time_107 rfl (lv_at hl 6 rfl) ?_
  refine lv_if_ne (tgt := 117) hx hb dX10_time_108 (by decide) (fun _ => ?_) (fun h => absurd h (by decide))
  refine lv_iload_n hx hb dX10_time_117 rfl (lv_at hl 1 rfl) ?_
  refine lv_goto (tgt := 140) hx hb dX10_time_118 (by decide) ?_
  exact x_zret hx hb hr rfl rfl hlocks hP hD hS hAe hsz (Nat.le_of_ble_eq_true rfl) (Nat.le_of_ble_eq_true rfl) (fun _ => 0) [0, 1] (by decide) rfl dX10_time_140

set_option maxHeartbeats 4000000 in
set_option maxRecDepth 100000 in
theorem c1806_X10_timeOf (l : Launch) (g : gG) (q1 q42 : Nat) (x2 : Int32) (w6 w7 w8 w9 w10 w11 w12 w13 w14 w15 w16 w17 w18 w19 w20 w21 w22 w23 w24 w25 w26 w27 w28 w29 w30 w31 w32 w33 w34 w35 w36 w37 w38 w39 w40 w41 : Value) (f43 : Nat → Int32) (hf44 : f43 453 = 1) (hf45 : f43 454 = 0) (hf47 : f43 455 = 100) (h3 : (0 : Int32) ≤ x2) (h4 : x2 ≤ 30000) (h46 : x2 ≤ 0) (sz : Nat) : Met l yX10_timeOf [Cond.code yX10_timeOf cX10_timeOf 3 (some .int)] ({ frames := 2, cells := 0, slots := 0, locals := 50 } : Room) (va_Pc [.ref q1, .int x2, .int 1] (PX g sz [(q42, .inl (g.2 0, 497, .inl f43)), (q1, .inr (12, [.ref q42, w6, w7, w8, w9, w10, w11, w12, w13, w14, w15, w16, w17, w18, w19, w20, w21, w22, w23, w24, w25, w26, w27, w28, w29, w30, w31, w32, w33, w34, w35, w36, w37, w38, w39, w40, w41]))])) (QI g [(q42, .inl (g.2 0, 497, .inl f43)), (q1, .inr (12, [.ref q42, w6, w7, w8, w9, w10, w11, w12, w13, w14, w15, w16, w17, w18, w19, w20, w21, w22, w23, w24, w25, w26, w27, w28, w29, w30, w31, w32, w33, w34, w35, w36, w37, w38, w39, w40, w41]))] sz 0 (fun _ => [(q1, .inr (12, [.ref q42, w6, w7, w8, w9, w10, .int 0, w12, w13, w14, w15, w16, w17, w18, w19, w20, w21, w22, w23, w24, w25, w26, w27, w28, w29, w30, w31, w32, w33, w34, w35, w36, w37, w38, w39, w40, w41]))])) 0 0 (va_A [(q42, .inl (g.2 0, 497, .inl f43)), (q1, .inr (12, [.ref q42, w6, w7, w8, w9, w10, w11, w12, w13, w14, w15, w16, w17, w18, w19, w20, w21, w22, w23, w24, w25, w26, w27, w28, w29, w30, w31, w32, w33, w34, w35, w36, w37, w38, w39, w40, w41]))] sz) := by
  refine ofN (by decide) (Nat.le_of_ble_eq_true rfl) rfl ?_
  intro p e s m args below meth c A ls hAe hsz hx hb hml hr hlocks hin hown hE hP hD hA hS hl
  have hown : s.vm.findClass RX10 = some m.cls := hown
  refine lv_aload_n hx hb dX10_timeOf_0 rfl (lv_at hl 0 rfl) ?_
  refine lv_iload_n hx hb dX10_timeOf_1 rfl (lv_at hl 1 rfl) ?_
  refine lv_iconst (v := 0) hx hb dX10_timeOf_2 (by decide) ?_
  refine lv_sipush (v := 30000) hx hb dX10_timeOf_3 (by decide) ?_
  refine g0_i (rS (rest := [.ref q1]) hx hb hml hown hE hP hD (c1703_X10_in l g x2 h3 h4 s.heap.size) (kS_X10_in hE (e1431 hE) rfl rfl ⟨(Nat.le_of_ble_eq_true rfl), (Nat.le_of_ble_eq_true rfl)⟩) [] rfl (by decide) rfl hl.1 rfl (lv_room (Nat.le_of_ble_eq_true rfl)) dX10_timeOf_6 ⟨(Nat.le_of_ble_eq_true rfl), (Nat.le_of_ble_eq_true rfl)⟩) hP hD hS hA (fun u9 H locs hP hS => ?_)
  refine lv_if_eq (tgt := 16) hx hb dX10_timeOf_9 (by decide) (fun h => absurd h (by decide)) (fun _ => ?_)
  refine lv_iconst (v := 0) hx hb dX10_timeOf_12 (by decide) ?_
  refine lv_goto (tgt := 17) hx hb dX10_timeOf_13 (by decide) ?_
  refine pf_RX10_86 (ws' := [(q42, .inl (g.2 0, 497, .inl f43)), (q1, .inr (12, [.ref q42, w6, w7, w8, w9, w10, .int 0, w12, w13, w14, w15, w16, w17, w18, w19, w20, w21, w22, w23, w24, w25, w26, w27, w28, w29, w30, w31, w32, w33, w34, w35, w36, w37, w38, w39, w40, w41]))]) hx hb hown hE hP hD hS 1 rfl rfl rfl (Nat.le_of_ble_eq_true rfl) dX10_timeOf_17 rfl (fun H locs hP hD hS => ?_)
  refine lv_aload_n hx hb dX10_timeOf_20 rfl (lv_at hl 0 rfl) ?_
  refine gf_RX10_86 hx hb hown hE hP 1 rfl rfl dX10_timeOf_21 ?_
  refine lv_if_le (tgt := 31) hx hb dX10_timeOf_24 (by decide) (fun _ => ?_) (fun h => absurd (by decide) h)
  refine lv_aload_n hx hb dX10_timeOf_31 rfl (lv_at hl 0 rfl) ?_
  refine lv_iload_n hx hb dX10_timeOf_32 rfl (lv_at hl 1 rfl) ?_
  refine lv_iload_n hx hb dX10_timeOf_33 rfl (lv_at hl 2 rfl) ?_
  refine g_i (wr := []) (rV (rest := []) hx hb hml hown hE hP hD 1 rfl rfl (c1805_X10_time l g q1 q42 x2 w6 w7 w8 w9 w10 (.int 0) w12 w13 w14 w15 w16 w17 w18 w19 w20 w21 w22 w23 w24 w25 w26 w27 w28 w29 w30 w31 w32 w33 w34 w35 w36 w37 w38 w39 w40 w41 f43 (hf44) (hf45) (hf47) h46 H.size) (kV_X10_time hE (e1551 hE) rfl rfl ⟨(Nat.le_of_ble_eq_true rfl), (Nat.le_of_ble_eq_true rfl)⟩) [0, 1] rfl (by decide) rfl hl.1 rfl (lv_room (Nat.le_of_ble_eq_true rfl)) dX10_timeOf_34 ⟨(Nat.le_of_ble_eq_true rfl), (Nat.le_of_ble_eq_true rfl)⟩) hP hD hS hA [0, 1] [] rfl rfl (by decide) (by decide) (fun u2 H locs hP hD hS => ?_)
  have hP : va_P g.1 vwCl [(q42, .inl (g.2 0, 497, .inl f43)), (q1, .inr (12, [.ref q42, w6, w7, w8, w9, w10, .int 0, w12, w13, w14, w15, w16, w17, w18, w19, w20, w21, w22, w23, w24, w25, w26, w27, w28, w29, w30, w31, w32, w33, w34, w35, w36, w37, w38, w39, w40, w41]))] H := hP
  have hD : va_D A [(q42, .inl (g.2 0, 497, .inl f43)), (q1, .inr (12, [.ref q42, w6, w7, w8, w9, w10, .int 0, w12, w13, w14, w15, w16, w17, w18, w19, w20, w21, w22, w23, w24, w25, w26, w27, w28, w29, w30, w31, w32, w33, w34, w35, w36, w37, w38, w39, w40, w41]))] := hD
  exact x_zret hx hb hr rfl rfl hlocks hP hD hS hAe hsz (Nat.le_of_ble_eq_true rfl) (Nat.le_of_ble_eq_true rfl) (fun _ => 0) [1] (by decide) rfl dX10_timeOf_37

set_option maxHeartbeats 4000000 in
set_option maxRecDepth 100000 in
theorem c1807_X9_timeOf (l : Launch) (g : gG) (q1 q16 q20 q23 q31 q36 q40 : Nat) (x2 : Int32) (w6 w7 w8 w9 w10 w11 w12 w13 w14 w15 w19 w24 w26 w27 w28 w29 w30 w35 : Value) (f21 : Nat → Option Nat) (f37 : Nat → Int32) (f41 : Nat → Int32) (hf22 : f21 0 = some q23) (hf38 : f37 0 = 0) (hf42 : f41 0 = 100) (h3 : (0 : Int32) ≤ x2) (h4 : x2 ≤ 30000) (h39 : (0 : Int32) < x2) (sz : Nat) : Met l yX9_timeOf [Cond.code yX9_timeOf cX9_timeOf 4 (some .int)] ({ frames := 2, cells := 0, slots := 0, locals := 46 } : Room) (va_Pc [.ref q1, .int x2, .int 1] (PX g sz [(q40, .inl (g.2 0, 10, .inl f41)), (q36, .inl (g.2 0, 10, .inl f37)), (q31, .inr (9, [.ref q36, .ref q40, .int 1, w35])), (q23, .inr (8, [w24, .ref q31, w26, w27, w28, w29, w30])), (q20, .inl (g.2 3, 10, .inr (.inr (.inr (.inr f21))))), (q16, .inr (10, [.ref q20, .int 0, w19])), (q1, .inr (11, [.ref q16, w6, w7, w8, w9, w10, w11, w12, w13, w14, w15]))])) (QI g [(q40, .inl (g.2 0, 10, .inl f41)), (q36, .inl (g.2 0, 10, .inl f37)), (q31, .inr (9, [.ref q36, .ref q40, .int 1, w35])), (q23, .inr (8, [w24, .ref q31, w26, w27, w28, w29, w30])), (q20, .inl (g.2 3, 10, .inr (.inr (.inr (.inr f21))))), (q16, .inr (10, [.ref q20, .int 0, w19])), (q1, .inr (11, [.ref q16, w6, w7, w8, w9, w10, w11, w12, w13, w14, w15]))] sz (x2 * 100) (fun _ => [(q23, .inr (8, [w24, .ref q31, w26, w27, w28, w29, w30])), (q1, .inr (11, [.ref q16, w6, w7, w8, w9, w10, w11, w12, w13, w14, w15])), (q20, .inl (g.2 3, 10, .inr (.inr (.inr (.inr f21))))), (q16, .inr (10, [.ref q20, .int 0, w19])), (q36, .inl (g.2 0, 10, .inl f37)), (q40, .inl (g.2 0, 10, .inl f41)), (q31, .inr (9, [.ref q36, .ref q40, .int 1, w35]))])) 0 0 (va_A [(q40, .inl (g.2 0, 10, .inl f41)), (q36, .inl (g.2 0, 10, .inl f37)), (q31, .inr (9, [.ref q36, .ref q40, .int 1, w35])), (q23, .inr (8, [w24, .ref q31, w26, w27, w28, w29, w30])), (q20, .inl (g.2 3, 10, .inr (.inr (.inr (.inr f21))))), (q16, .inr (10, [.ref q20, .int 0, w19])), (q1, .inr (11, [.ref q16, w6, w7, w8, w9, w10, w11, w12, w13, w14, w15]))] sz) := by
  refine ofN (by decide) (Nat.le_of_ble_eq_true rfl) rfl ?_
  intro p e s m args below meth c A ls hAe hsz hx hb hml hr hlocks hin hown hE hP hD hA hS hl
  have hown : s.vm.findClass RX9 = some m.cls := hown
  refine lv_iload_n hx hb dX9_timeOf_0 rfl (lv_at hl 1 rfl) ?_
  refine lv_iconst (v := 0) hx hb dX9_timeOf_1 (by decide) ?_
  refine lv_sipush (v := 30000) hx hb dX9_timeOf_2 (by decide) ?_
  refine g0_v (rS (rest := []) hx hb hml hown hE hP hD (c1699_X9_requireRange l g x2 h3 h4 s.heap.size) (kS_X9_requireRange hE (e636 hE) rfl rfl ⟨(Nat.le_of_ble_eq_true rfl), (Nat.le_of_ble_eq_true rfl)⟩) [] rfl (by decide) rfl hl.1 rfl (lv_room (Nat.le_of_ble_eq_true rfl)) dX9_timeOf_5 ⟨(Nat.le_of_ble_eq_true rfl), (Nat.le_of_ble_eq_true rfl)⟩) hP hD hS hA (fun u9 H locs hP hS => ?_)
  refine lv_aload_n hx hb dX9_timeOf_8 rfl (lv_at hl 0 rfl) ?_
  refine gf_RX9_12 hx hb hown hE hP 6 rfl rfl dX9_timeOf_9 ?_
  refine g_r (wr := [(q40, .inl (g.2 0, 10, .inl f41)), (q36, .inl (g.2 0, 10, .inl f37)), (q31, .inr (9, [.ref q36, .ref q40, .int 1, w35])), (q23, .inr (8, [w24, .ref q31, w26, w27, w28, w29, w30])), (q1, .inr (11, [.ref q16, w6, w7, w8, w9, w10, w11, w12, w13, w14, w15]))]) (rV (rest := []) hx hb hml hown hE hP hD 5 rfl rfl (c71_X8_current l g q16 q20 q23 w19 f21 (hf22) H.size) (kV_X8_current hE (e290 hE) rfl rfl ⟨(Nat.le_of_ble_eq_true rfl), (Nat.le_of_ble_eq_true rfl)⟩) [4, 5] rfl (by decide) rfl hl.1 rfl (lv_room (Nat.le_of_ble_eq_true rfl)) dX9_timeOf_12 ⟨(Nat.le_of_ble_eq_true rfl), (Nat.le_of_ble_eq_true rfl)⟩) hP hD hS hA [4, 5] [0, 1, 2, 3, 6] rfl rfl (by decide) (by decide) (fun u2 H locs hP hD hS => ?_)
  have hP : va_P g.1 vwCl [(q40, .inl (g.2 0, 10, .inl f41)), (q36, .inl (g.2 0, 10, .inl f37)), (q31, .inr (9, [.ref q36, .ref q40, .int 1, w35])), (q23, .inr (8, [w24, .ref q31, w26, w27, w28, w29, w30])), (q1, .inr (11, [.ref q16, w6, w7, w8, w9, w10, w11, w12, w13, w14, w15])), (q20, .inl (g.2 3, 10, .inr (.inr (.inr (.inr f21))))), (q16, .inr (10, [.ref q20, .int 0, w19]))] H := hP
  have hD : va_D A [(q40, .inl (g.2 0, 10, .inl f41)), (q36, .inl (g.2 0, 10, .inl f37)), (q31, .inr (9, [.ref q36, .ref q40, .int 1, w35])), (q23, .inr (8, [w24, .ref q31, w26, w27, w28, w29, w30])), (q1, .inr (11, [.ref q16, w6, w7, w8, w9, w10, w11, w12, w13, w14, w15])), (q20, .inl (g.2 3, 10, .inr (.inr (.inr (.inr f21))))), (q16, .inr (10, [.ref q20, .int 0, w19]))] := hD
  refine gf_RX9_193 hx hb hown hE hP 3 rfl rfl dX9_timeOf_15 ?_
  refine lv_astore_n (lv' := [(3, .ref q31), (0, .ref q1), (1, .int x2), (2, .int 1)]) hx hb dX9_timeOf_18 rfl hl (by decide) rfl (fun ls hl => ?_)
  refine lv_iload_n hx hb dX9_timeOf_19 rfl (lv_at hl 3 rfl) ?_
  refine lv_if_eq (tgt := 31) hx hb dX9_timeOf_20 (by decide) (fun h => absurd h (by decide)) (fun _ => ?_)
  refine lv_aload_n hx hb dX9_timeOf_23 rfl (lv_at hl 0 rfl) ?_
  refine lv_iload_n hx hb dX9_timeOf_24 rfl (lv_at hl 2 rfl) ?_
  refine g_i (wr := [(q23, .inr (8, [w24, .ref q31, w26, w27, w28, w29, w30])), (q1, .inr (11, [.ref q16, w6, w7, w8, w9, w10, w11, w12, w13, w14, w15])), (q20, .inl (g.2 3, 10, .inr (.inr (.inr (.inr f21))))), (q16, .inr (10, [.ref q20, .int 0, w19]))]) (rV (rest := []) hx hb hml hown hE hP hD 2 rfl rfl (c1786_X7_plainTime l g q31 q36 q40 x2 w35 f37 f41 (hf38) (hf42) h39 H.size) (kV_X7_plainTime hE (e966 hE) rfl rfl ⟨(Nat.le_of_ble_eq_true rfl), (Nat.le_of_ble_eq_true rfl)⟩) [0, 1, 2] rfl (by decide) rfl hl.1 rfl (lv_room (Nat.le_of_ble_eq_true rfl)) dX9_timeOf_25 ⟨(Nat.le_of_ble_eq_true rfl), (Nat.le_of_ble_eq_true rfl)⟩) hP hD hS hA [0, 1, 2] [3, 4, 5, 6] rfl rfl (by decide) (by decide) (fun u3 H locs hP hD hS => ?_)
  have hP : va_P g.1 vwCl [(q23, .inr (8, [w24, .ref q31, w26, w27, w28, w29, w30])), (q1, .inr (11, [.ref q16, w6, w7, w8, w9, w10, w11, w12, w13, w14, w15])), (q20, .inl (g.2 3, 10, .inr (.inr (.inr (.inr f21))))), (q16, .inr (10, [.ref q20, .int 0, w19])), (q36, .inl (g.2 0, 10, .inl f37)), (q40, .inl (g.2 0, 10, .inl f41)), (q31, .inr (9, [.ref q36, .ref q40, .int 1, w35]))] H := hP
  have hD : va_D A [(q23, .inr (8, [w24, .ref q31, w26, w27, w28, w29, w30])), (q1, .inr (11, [.ref q16, w6, w7, w8, w9, w10, w11, w12, w13, w14, w15])), (q20, .inl (g.2 3, 10, .inr (.inr (.inr (.inr f21))))), (q16, .inr (10, [.ref q20, .int 0, w19])), (q36, .inl (g.2 0, 10, .inl f37)), (q40, .inl (g.2 0, 10, .inl f41)), (q31, .inr (9, [.ref q36, .ref q40, .int 1, w35]))] := hD
  refine lv_goto (tgt := 36) hx hb dX9_timeOf_28 (by decide) ?_
  exact x_zret hx hb hr rfl rfl hlocks hP hD hS hAe hsz (Nat.le_of_ble_eq_true rfl) (Nat.le_of_ble_eq_true rfl) (fun _ => 0) [0, 1, 2, 3, 4, 5, 6] (by decide) rfl dX9_timeOf_36

set_option maxHeartbeats 4000000 in
set_option maxRecDepth 100000 in
theorem c1808_L_timeOf (l : Launch) (g : gG) (hlx : l.stackTraces = false) (q1 q3 q16 q20 q23 q31 q36 q41 : Nat) (x2 : Int32) (w6 w7 w8 w9 w10 w11 w12 w13 w14 w15 w19 w24 w26 w27 w28 w29 w30 w35 : Value) (f21 : Nat → Option Nat) (f37 : Nat → Int32) (f42 : Nat → Int32) (f44 : Nat → Int64) (hf22 : f21 0 = some q23) (hf38 : f37 0 = 0) (hf43 : f42 0 = 100) (h4 : (0 : Int32) ≤ x2) (h39 : x2 ≤ 30000) (h40 : (0 : Int32) < x2) (sz : Nat) : Met l yL_timeOf [Cond.codeWith yL_timeOf cL_timeOf 5 (some .int) [(0, 10, 13, 15)]] ({ frames := 3, cells := 0, slots := 0, locals := 69 } : Room) (va_Pc [.ref q1, .int x2, .int 1, .ref q3] (PZ g sz [(q3, .inl (g.2 1, 1, .inr (.inl f44))), (q41, .inl (g.2 0, 10, .inl f42)), (q36, .inl (g.2 0, 10, .inl f37)), (q31, .inr (9, [.ref q36, .ref q41, .int 1, w35])), (q23, .inr (8, [w24, .ref q31, w26, w27, w28, w29, w30])), (q20, .inl (g.2 3, 10, .inr (.inr (.inr (.inr f21))))), (q16, .inr (10, [.ref q20, .int 0, w19])), (q1, .inr (11, [.ref q16, w6, w7, w8, w9, w10, w11, w12, w13, w14, w15]))])) (QI g [(q3, .inl (g.2 1, 1, .inr (.inl f44))), (q41, .inl (g.2 0, 10, .inl f42)), (q36, .inl (g.2 0, 10, .inl f37)), (q31, .inr (9, [.ref q36, .ref q41, .int 1, w35])), (q23, .inr (8, [w24, .ref q31, w26, w27, w28, w29, w30])), (q20, .inl (g.2 3, 10, .inr (.inr (.inr (.inr f21))))), (q16, .inr (10, [.ref q20, .int 0, w19])), (q1, .inr (11, [.ref q16, w6, w7, w8, w9, w10, w11, w12, w13, w14, w15]))] sz 0 (fun _ => [(q3, .inl (g.2 1, 1, .inr (.inl (vp_updL f44 0 ((x2 * 100)).toInt64))))])) 0 0 (va_A [(q3, .inl (g.2 1, 1, .inr (.inl f44))), (q41, .inl (g.2 0, 10, .inl f42)), (q36, .inl (g.2 0, 10, .inl f37)), (q31, .inr (9, [.ref q36, .ref q41, .int 1, w35])), (q23, .inr (8, [w24, .ref q31, w26, w27, w28, w29, w30])), (q20, .inl (g.2 3, 10, .inr (.inr (.inr (.inr f21))))), (q16, .inr (10, [.ref q20, .int 0, w19])), (q1, .inr (11, [.ref q16, w6, w7, w8, w9, w10, w11, w12, w13, w14, w15]))] sz) := by
  refine ofH (by decide) (Nat.le_of_ble_eq_true rfl) rfl ?_
  intro p e s m args below meth c A ls hAe hsz hx hb hml hr hlocks hin hown hE hP hD hA hS hl htb hz
  have hown : s.vm.findClass RL = some m.cls := hown
  refine lv_aload_n hx hb dL_timeOf_0 rfl (lv_at hl 3 rfl) ?_
  refine lv_iconst (v := 0) hx hb dL_timeOf_1 (by decide) ?_
  refine lv_aload_n hx hb dL_timeOf_2 rfl (lv_at hl 0 rfl) ?_
  refine lv_iload_n hx hb dL_timeOf_3 rfl (lv_at hl 1 rfl) ?_
  refine lv_iload_n hx hb dL_timeOf_4 rfl (lv_at hl 2 rfl) ?_
  refine g_i (wr := [(q3, .inl (g.2 1, 1, .inr (.inl f44)))]) (rV (rest := [.int 0, .ref q3]) hx hb hml hown hE hP hD 7 rfl rfl (c1807_X9_timeOf l g q1 q16 q20 q23 q31 q36 q41 x2 w6 w7 w8 w9 w10 w11 w12 w13 w14 w15 w19 w24 w26 w27 w28 w29 w30 w35 f21 f37 f42 (hf22) (hf38) (hf43) h4 h39 h40 s.heap.size) (kV_X9_timeOf hE (e962 hE) rfl rfl ⟨(Nat.le_of_ble_eq_true rfl), (Nat.le_of_ble_eq_true rfl)⟩) [1, 2, 3, 4, 5, 6, 7] rfl (by decide) rfl hl.1 rfl (lv_room (Nat.le_of_ble_eq_true rfl)) dL_timeOf_5 ⟨(Nat.le_of_ble_eq_true rfl), (Nat.le_of_ble_eq_true rfl)⟩) hP hD hS hA [1, 2, 3, 4, 5, 6, 7] [0] rfl rfl (by decide) (by decide) (fun u1 H locs hP hD hS => ?_)
  have hP : va_P g.1 vwCl [(q3, .inl (g.2 1, 1, .inr (.inl f44))), (q23, .inr (8, [w24, .ref q31, w26, w27, w28, w29, w30])), (q1, .inr (11, [.ref q16, w6, w7, w8, w9, w10, w11, w12, w13, w14, w15])), (q20, .inl (g.2 3, 10, .inr (.inr (.inr (.inr f21))))), (q16, .inr (10, [.ref q20, .int 0, w19])), (q36, .inl (g.2 0, 10, .inl f37)), (q41, .inl (g.2 0, 10, .inl f42)), (q31, .inr (9, [.ref q36, .ref q41, .int 1, w35]))] H := hP
  have hD : va_D A [(q3, .inl (g.2 1, 1, .inr (.inl f44))), (q23, .inr (8, [w24, .ref q31, w26, w27, w28, w29, w30])), (q1, .inr (11, [.ref q16, w6, w7, w8, w9, w10, w11, w12, w13, w14, w15])), (q20, .inl (g.2 3, 10, .inr (.inr (.inr (.inr f21))))), (q16, .inr (10, [.ref q20, .int 0, w19])), (q36, .inl (g.2 0, 10, .inl f37)), (q41, .inl (g.2 0, 10, .inl f42)), (q31, .inr (9, [.ref q36, .ref q41, .int 1, w35]))] := hD
  refine lv_i2l (v := ((x2 * 100)).toInt64) hx hb dL_timeOf_8 rfl ?_
  refine x_last (ws' := [(q3, .inl (g.2 1, 1, .inr (.inl (vp_updL f44 0 ((x2 * 100)).toInt64)))), (q23, .inr (8, [w24, .ref q31, w26, w27, w28, w29, w30])), (q1, .inr (11, [.ref q16, w6, w7, w8, w9, w10, w11, w12, w13, w14, w15])), (q20, .inl (g.2 3, 10, .inr (.inr (.inr (.inr f21))))), (q16, .inr (10, [.ref q20, .int 0, w19])), (q36, .inl (g.2 0, 10, .inl f37)), (q41, .inl (g.2 0, 10, .inl f42)), (q31, .inr (9, [.ref q36, .ref q41, .int 1, w35]))]) hx hb hE hP hD hS 0 rfl 0 (x_in (by decide)) (by decide) dL_timeOf_9 rfl (fun H locs hP hD hS => ?_)
  refine lv_goto (tgt := 17) hx hb dL_timeOf_10 (by decide) ?_
  refine lv_iconst (v := 0) hx hb dL_timeOf_17 (by decide) ?_
  exact x_zret hx hb hr rfl rfl hlocks hP hD hS hAe hsz (Nat.le_of_ble_eq_true rfl) (Nat.le_of_ble_eq_true rfl) (fun _ => 0) [0] (by decide) rfl dL_timeOf_18

set_option maxHeartbeats 4000000 in
set_option maxRecDepth 100000 in
theorem c1809_X10_time (l : Launch) (g : gG) (q1 q40 : Nat) (x2 : Int32) (w4 w5 w6 w7 w8 w9 w10 w11 w12 w13 w14 w15 w16 w17 w18 w19 w20 w21 w22 w23 w24 w25 w26 w27 w28 w29 w30 w31 w32 w33 w34 w35 w36 w37 w38 w39 : Value) (f41 : Nat → Int32) (hf42 : f41 453 = 1) (hf43 : f41 454 = 0) (hf45 : f41 455 = 100) (h44 : (0 : Int32) < x2) (sz : Nat) : Met l yX10_time [Cond.code yX10_time cX10_time 7 (some .int)] ({ frames := 1, cells := 0, slots := 0, locals := 24 } : Room) (va_Pc [.ref q1, .int x2, .int 1] (PX g sz [(q40, .inl (g.2 0, 497, .inl f41)), (q1, .inr (12, [.ref q40, w4, w5, w6, w7, w8, w9, w10, w11, w12, w13, w14, w15, w16, w17, w18, w19, w20, w21, w22, w23, w24, w25, w26, w27, w28, w29, w30, w31, w32, w33, w34, w35, w36, w37, w38, w39]))])) (QI g [(q40, .inl (g.2 0, 497, .inl f41)), (q1, .inr (12, [.ref q40, w4, w5, w6, w7, w8, w9, w10, w11, w12, w13, w14, w15, w16, w17, w18, w19, w20, w21, w22, w23, w24, w25, w26, w27, w28, w29, w30, w31, w32, w33, w34, w35, w36, w37, w38, w39]))] sz (x2 * 100) (fun _ => [(q40, .inl (g.2 0, 497, .inl f41)), (q1, .inr (12, [.ref q40, w4, w5, w6, w7, w8, w9, w10, w11, w12, w13, w14, w15, w16, w17, w18, w19, w20, w21, w22, w23, w24, w25, w26, w27, w28, w29, w30, w31, w32, w33, w34, w35, w36, w37, w38, w39]))])) 0 0 (va_A [(q40, .inl (g.2 0, 497, .inl f41)), (q1, .inr (12, [.ref q40, w4, w5, w6, w7, w8, w9, w10, w11, w12, w13, w14, w15, w16, w17, w18, w19, w20, w21, w22, w23, w24, w25, w26, w27, w28, w29, w30, w31, w32, w33, w34, w35, w36, w37, w38, w39]))] sz) := by
  refine ofN (by decide) (Nat.le_of_ble_eq_true rfl) rfl ?_
  intro p e s m args below meth c A ls hAe hsz hx hb hml hr hlocks hin hown hE hP hD hA hS hl
  have hown : s.vm.findClass RX10 = some m.cls := hown
  refine lv_iconst (v := 0) hx hb dX10_time_0 (by decide) ?_
  refine lv_istore_n (lv' := [(3, .int 0), (0, .ref q1), (1, .int x2), (2, .int 1)]) hx hb dX10_time_1 rfl hl (by decide) rfl (fun ls hl => ?_)
  refine lv_iconst (v := 0) hx hb dX10_time_2 (by decide) ?_
  refine lv_istore (lv' := [(4, .int 0), (3, .int 0), (0, .ref q1), (1, .int x2), (2, .int 1)]) hx hb dX10_time_3 hl (by decide) rfl (fun ls hl => ?_)
  refine lv_iload hx hb dX10_time_5 (lv_at hl 0 rfl) ?_
  refine lv_aload_n hx hb dX10_time_7 rfl (lv_at hl 2 rfl) ?_
  refine gf_RX10_9 hx hb hown hE hP 1 rfl rfl dX10_time_8 ?_
  refine lv_sipush (v := 453) hx hb dX10_time_11 (by decide) ?_
  refine x_iald (v := 1) hx hb hE hP 0 rfl 453 (x_in (by decide)) (by decide) hf42 dX10_time_14 ?_
  refine lv_icmp_ge (tgt := 107) hx hb dX10_time_15 (by decide) (fun h => absurd h (by decide)) (fun _ => ?_)
  refine lv_aload_n hx hb dX10_time_18 rfl (lv_at hl 2 rfl) ?_
  refine gf_RX10_9 hx hb hown hE hP 1 rfl rfl dX10_time_19 ?_
  refine lv_sipush (v := 454) hx hb dX10_time_22 (by decide) ?_
  refine lv_iconst (v := 2) hx hb dX10_time_25 (by decide) ?_
  refine lv_iload hx hb dX10_time_26 (lv_at hl 0 rfl) ?_
  refine x_imul (v := 0) hx hb dX10_time_28 (by decide) ?_
  refine x_iadd (v := 454) hx hb dX10_time_29 (by decide) ?_
  refine x_iald (v := 0) hx hb hE hP 0 rfl 454 (x_in (by decide)) (by decide) hf43 dX10_time_30 ?_
  refine lv_istore (lv' := [(5, .int 0), (4, .int 0), (3, .int 0), (0, .ref q1), (1, .int x2), (2, .int 1)]) hx hb dX10_time_31 hl (by decide) rfl (fun ls hl => ?_)
  refine lv_iload hx hb dX10_time_33 (lv_at hl 1 rfl) ?_
  refine lv_iconst (v := 1) hx hb dX10_time_35 (by decide) ?_
  refine x_iadd (v := 1) hx hb dX10_time_36 (by decide) ?_
  refine lv_aload_n hx hb dX10_time_37 rfl (lv_at hl 3 rfl) ?_
  refine gf_RX10_9 hx hb hown hE hP 1 rfl rfl dX10_time_38 ?_
  refine lv_sipush (v := 453) hx hb dX10_time_41 (by decide) ?_
  refine x_iald (v := 1) hx hb hE hP 0 rfl 453 (x_in (by decide)) (by decide) hf42 dX10_time_44 ?_
  refine lv_icmp_ge (tgt := 70) hx hb dX10_time_45 (by decide) (fun _ => ?_) (fun h => absurd (by decide) h)
  refine lv_iload_n hx hb dX10_time_70 rfl (lv_at hl 4 rfl) ?_
  refine lv_istore (lv' := [(6, .int x2), (5, .int 0), (4, .int 0), (3, .int 0), (0, .ref q1), (1, .int x2), (2, .int 1)]) hx hb dX10_time_71 hl (by decide) rfl (fun ls hl => ?_)
  refine lv_iload_n hx hb dX10_time_73 rfl (lv_at hl 3 rfl) ?_
  refine lv_iconst (v := 0) hx hb dX10_time_74 (by decide) ?_
  refine lv_iload hx hb dX10_time_75 (lv_at hl 0 rfl) ?_
  refine lv_iload hx hb dX10_time_77 (lv_at hl 1 rfl) ?_
  refine x_isub (v := x2) hx hb dX10_time_79 (Int32.sub_zero _) ?_
  refine x_mmax (v := x2) hx hb (by rw [hml]; exact hl.1.symm) hown (e1506 hE) (e165 hE) (e9 hE) (e166 hE) (Nat.le_of_ble_eq_true rfl) (Nat.le_of_ble_eq_true rfl) (Nat.le_of_ble_eq_true rfl) (Nat.le_of_ble_eq_true rfl) (if_pos h44) dX10_time_80 ?_
  refine lv_aload_n hx hb dX10_time_83 rfl (lv_at hl 4 rfl) ?_
  refine gf_RX10_9 hx hb hown hE hP 1 rfl rfl dX10_time_84 ?_
  refine lv_sipush (v := 454) hx hb dX10_time_87 (by decide) ?_
  refine lv_iconst (v := 2) hx hb dX10_time_90 (by decide) ?_
  refine lv_iload hx hb dX10_time_91 (lv_at hl 2 rfl) ?_
  refine x_imul (v := 0) hx hb dX10_time_93 (by decide) ?_
  refine x_iadd (v := 454) hx hb dX10_time_94 (by decide) ?_
  refine lv_iconst (v := 1) hx hb dX10_time_95 (by decide) ?_
  refine x_iadd (v := 455) hx hb dX10_time_96 (by decide) ?_
  refine x_iald (v := 100) hx hb hE hP 0 rfl 455 (x_in (by decide)) (by decide) hf45 dX10_time_97 ?_
  refine x_imul (v := (x2 * 100)) hx hb dX10_time_98 rfl ?_
  refine x_iadd (v := (x2 * 100)) hx hb dX10_time_99 (Int32.zero_add _) ?_
  refine lv_istore_n (lv' := [(3, .int (x2 * 100)), (6, .int x2), (5, .int 0), (4, .int 0), (0, .ref q1), (1, .int x2), (2, .int 1)]) hx hb dX10_time_100 rfl hl (by decide) rfl (fun ls hl => ?_)
  refine lv_iinc (v := 1) (lv' := [(4, .int 1), (3, .int (x2 * 100)), (6, .int x2), (5, .int 0), (0, .ref q1), (1, .int x2), (2, .int 1)]) hx hb dX10_time_101 hl (k := 3) rfl (by decide) (by decide) rfl (fun ls hl => ?_)
  refine lv_goto (tgt := 5) hx hb dX10_time_104 (by decide) ?_
  refine lv_iload hx hb dX10_time_5 (lv_at hl 0 rfl) ?_
  refine lv_aload_n hx hb dX10_time_7 rfl (lv_at hl 4 rfl) ?_
  refine gf_RX10_9 hx hb hown hE hP 1 rfl rfl dX10_time_8 ?_
  refine lv_sipush (v := 453) hx hb dX10_time_11 (by decide) ?_
  refine x_iald (v := 1) hx hb hE hP 0 rfl 453 (x_in (by decide)) (by decide) hf42 dX10_time_14 ?_
  refine lv_icmp_ge (tgt := 107) hx hb dX10_time_15 (by decide) (fun _ => ?_) (fun h => absurd (by decide) h)
  refine lv_iload_n hx hb dX10_time_107 rfl (lv_at hl 6 rfl) ?_
  refine lv_if_ne (tgt := 117) hx hb dX10_time_108 (by decide) (fun _ => ?_) (fun h => absurd h (by decide))
  refine lv_iload_n hx hb dX10_time_117 rfl (lv_at hl 1 rfl) ?_
  refine lv_goto (tgt := 140) hx hb dX10_time_118 (by decide) ?_
  exact x_zret hx hb hr rfl rfl hlocks hP hD hS hAe hsz (Nat.le_of_ble_eq_true rfl) (Nat.le_of_ble_eq_true rfl) (fun _ => 0) [0, 1] (by decide) rfl dX10_time_140

set_option maxHeartbeats 4000000 in
set_option maxRecDepth 100000 in
theorem c1810_X10_timeOf (l : Launch) (g : gG) (q1 q42 : Nat) (x2 : Int32) (w6 w7 w8 w9 w10 w11 w12 w13 w14 w15 w16 w17 w18 w19 w20 w21 w22 w23 w24 w25 w26 w27 w28 w29 w30 w31 w32 w33 w34 w35 w36 w37 w38 w39 w40 w41 : Value) (f43 : Nat → Int32) (hf44 : f43 453 = 1) (hf45 : f43 454 = 0) (hf46 : f43 455 = 100) (h3 : (0 : Int32) ≤ x2) (h4 : x2 ≤ 30000) (h47 : (0 : Int32) < x2) (sz : Nat) : Met l yX10_timeOf [Cond.code yX10_timeOf cX10_timeOf 3 (some .int)] ({ frames := 2, cells := 0, slots := 0, locals := 50 } : Room) (va_Pc [.ref q1, .int x2, .int 1] (PX g sz [(q42, .inl (g.2 0, 497, .inl f43)), (q1, .inr (12, [.ref q42, w6, w7, w8, w9, w10, w11, w12, w13, w14, w15, w16, w17, w18, w19, w20, w21, w22, w23, w24, w25, w26, w27, w28, w29, w30, w31, w32, w33, w34, w35, w36, w37, w38, w39, w40, w41]))])) (QI g [(q42, .inl (g.2 0, 497, .inl f43)), (q1, .inr (12, [.ref q42, w6, w7, w8, w9, w10, w11, w12, w13, w14, w15, w16, w17, w18, w19, w20, w21, w22, w23, w24, w25, w26, w27, w28, w29, w30, w31, w32, w33, w34, w35, w36, w37, w38, w39, w40, w41]))] sz (x2 * 100) (fun _ => [(q1, .inr (12, [.ref q42, w6, w7, w8, w9, w10, .int 0, w12, w13, w14, w15, w16, w17, w18, w19, w20, w21, w22, w23, w24, w25, w26, w27, w28, w29, w30, w31, w32, w33, w34, w35, w36, w37, w38, w39, w40, w41]))])) 0 0 (va_A [(q42, .inl (g.2 0, 497, .inl f43)), (q1, .inr (12, [.ref q42, w6, w7, w8, w9, w10, w11, w12, w13, w14, w15, w16, w17, w18, w19, w20, w21, w22, w23, w24, w25, w26, w27, w28, w29, w30, w31, w32, w33, w34, w35, w36, w37, w38, w39, w40, w41]))] sz) := by
  refine ofN (by decide) (Nat.le_of_ble_eq_true rfl) rfl ?_
  intro p e s m args below meth c A ls hAe hsz hx hb hml hr hlocks hin hown hE hP hD hA hS hl
  have hown : s.vm.findClass RX10 = some m.cls := hown
  refine lv_aload_n hx hb dX10_timeOf_0 rfl (lv_at hl 0 rfl) ?_
  refine lv_iload_n hx hb dX10_timeOf_1 rfl (lv_at hl 1 rfl) ?_
  refine lv_iconst (v := 0) hx hb dX10_timeOf_2 (by decide) ?_
  refine lv_sipush (v := 30000) hx hb dX10_timeOf_3 (by decide) ?_
  refine g0_i (rS (rest := [.ref q1]) hx hb hml hown hE hP hD (c1703_X10_in l g x2 h3 h4 s.heap.size) (kS_X10_in hE (e1431 hE) rfl rfl ⟨(Nat.le_of_ble_eq_true rfl), (Nat.le_of_ble_eq_true rfl)⟩) [] rfl (by decide) rfl hl.1 rfl (lv_room (Nat.le_of_ble_eq_true rfl)) dX10_timeOf_6 ⟨(Nat.le_of_ble_eq_true rfl), (Nat.le_of_ble_eq_true rfl)⟩) hP hD hS hA (fun u9 H locs hP hS => ?_)
  refine lv_if_eq (tgt := 16) hx hb dX10_timeOf_9 (by decide) (fun h => absurd h (by decide)) (fun _ => ?_)
  refine lv_iconst (v := 0) hx hb dX10_timeOf_12 (by decide) ?_
  refine lv_goto (tgt := 17) hx hb dX10_timeOf_13 (by decide) ?_
  refine pf_RX10_86 (ws' := [(q42, .inl (g.2 0, 497, .inl f43)), (q1, .inr (12, [.ref q42, w6, w7, w8, w9, w10, .int 0, w12, w13, w14, w15, w16, w17, w18, w19, w20, w21, w22, w23, w24, w25, w26, w27, w28, w29, w30, w31, w32, w33, w34, w35, w36, w37, w38, w39, w40, w41]))]) hx hb hown hE hP hD hS 1 rfl rfl rfl (Nat.le_of_ble_eq_true rfl) dX10_timeOf_17 rfl (fun H locs hP hD hS => ?_)
  refine lv_aload_n hx hb dX10_timeOf_20 rfl (lv_at hl 0 rfl) ?_
  refine gf_RX10_86 hx hb hown hE hP 1 rfl rfl dX10_timeOf_21 ?_
  refine lv_if_le (tgt := 31) hx hb dX10_timeOf_24 (by decide) (fun _ => ?_) (fun h => absurd (by decide) h)
  refine lv_aload_n hx hb dX10_timeOf_31 rfl (lv_at hl 0 rfl) ?_
  refine lv_iload_n hx hb dX10_timeOf_32 rfl (lv_at hl 1 rfl) ?_
  refine lv_iload_n hx hb dX10_timeOf_33 rfl (lv_at hl 2 rfl) ?_
  refine g_i (wr := []) (rV (rest := []) hx hb hml hown hE hP hD 1 rfl rfl (c1809_X10_time l g q1 q42 x2 w6 w7 w8 w9 w10 (.int 0) w12 w13 w14 w15 w16 w17 w18 w19 w20 w21 w22 w23 w24 w25 w26 w27 w28 w29 w30 w31 w32 w33 w34 w35 w36 w37 w38 w39 w40 w41 f43 (hf44) (hf45) (hf46) h47 H.size) (kV_X10_time hE (e1551 hE) rfl rfl ⟨(Nat.le_of_ble_eq_true rfl), (Nat.le_of_ble_eq_true rfl)⟩) [0, 1] rfl (by decide) rfl hl.1 rfl (lv_room (Nat.le_of_ble_eq_true rfl)) dX10_timeOf_34 ⟨(Nat.le_of_ble_eq_true rfl), (Nat.le_of_ble_eq_true rfl)⟩) hP hD hS hA [0, 1] [] rfl rfl (by decide) (by decide) (fun u2 H locs hP hD hS => ?_)
  have hP : va_P g.1 vwCl [(q42, .inl (g.2 0, 497, .inl f43)), (q1, .inr (12, [.ref q42, w6, w7, w8, w9, w10, .int 0, w12, w13, w14, w15, w16, w17, w18, w19, w20, w21, w22, w23, w24, w25, w26, w27, w28, w29, w30, w31, w32, w33, w34, w35, w36, w37, w38, w39, w40, w41]))] H := hP
  have hD : va_D A [(q42, .inl (g.2 0, 497, .inl f43)), (q1, .inr (12, [.ref q42, w6, w7, w8, w9, w10, .int 0, w12, w13, w14, w15, w16, w17, w18, w19, w20, w21, w22, w23, w24, w25, w26, w27, w28, w29, w30, w31, w32, w33, w34, w35, w36, w37, w38, w39, w40, w41]))] := hD
  exact x_zret hx hb hr rfl rfl hlocks hP hD hS hAe hsz (Nat.le_of_ble_eq_true rfl) (Nat.le_of_ble_eq_true rfl) (fun _ => 0) [1] (by decide) rfl dX10_timeOf_37

set_option maxHeartbeats 4000000 in
set_option maxRecDepth 100000 in
theorem c1811_X9_timeOf (l : Launch) (g : gG) (hlx : l.stackTraces = false) (q1 : Nat) (x2 : Int32) (h3 : (0 : Int32) ≤ x2) (h4 : (30000 : Int32) < x2) (sz : Nat) : vx_Met l yX9_timeOf [Cond.code yX9_timeOf cX9_timeOf 4 (some .int)] ({ frames := 7, cells := 1, slots := 6, locals := 122 } : Room) (va_Pc [.ref q1, .int x2, .int 1] (PZ g sz [])) NI (XW g [] sz "java/lang/IllegalArgumentException" []) 1 6 (va_A [] sz) := by
  refine ofX (by decide) (Nat.le_of_ble_eq_true rfl) rfl ?_
  intro p e s m args below meth c A ls hAe hsz hx hb hml hr hlocks hin hown hE hP hD hA hS hl hex hz
  have hown : s.vm.findClass RX9 = some m.cls := hown
  refine lv_iload_n hx hb dX9_timeOf_0 rfl (lv_at hl 1 rfl) ?_
  refine lv_iconst (v := 0) hx hb dX9_timeOf_1 (by decide) ?_
  refine lv_sipush (v := 30000) hx hb dX9_timeOf_2 (by decide) ?_
  refine gx_v (wr := []) (rSx (rest := []) hx hb hml hown hE hP hD hS hA hz (c1727_X9_requireRange l g hlx x2 h3 h4 s.heap.size) (kS_X9_requireRange hE (e636 hE) rfl rfl ⟨(Nat.le_of_ble_eq_true rfl), (Nat.le_of_ble_eq_true rfl)⟩) [] rfl (by decide) rfl hl.1 rfl (lv_room (Nat.le_of_ble_eq_true rfl)) dX9_timeOf_5 ⟨(Nat.le_of_ble_eq_true rfl), (Nat.le_of_ble_eq_true rfl)⟩) hP hD hS hA [] [] rfl rfl (by decide) (by decide) (fun ce9 q9 H locs hP hD hS hq1 hq2 hq3 => ?_)
  exact x_out hex hlocks hq1 hq2 hq3 hP hD hS hAe hsz (Nat.le_of_ble_eq_true rfl) (Nat.le_of_ble_eq_true rfl) [] (by decide) rfl

set_option maxHeartbeats 4000000 in
set_option maxRecDepth 100000 in
theorem c1812_L_timeOf (l : Launch) (g : gG) (hlx : l.stackTraces = false) (q1 q3 q16 q20 q23 q31 q36 q40 : Nat) (x2 : Int32) (w6 w7 w8 w9 w10 w11 w12 w13 w14 w15 w19 w24 w26 w27 w28 w29 w30 w35 : Value) (f21 : Nat → Option Nat) (f37 : Nat → Int32) (f41 : Nat → Int32) (hf22 : f21 0 = some q23) (hf38 : f37 0 = 0) (hf42 : f41 0 = 100) (h4 : (0 : Int32) ≤ x2) (h39 : (30000 : Int32) < x2) (sz : Nat) : Met l yL_timeOf [Cond.codeWith yL_timeOf cL_timeOf 5 (some .int) [(0, 10, 13, 15)]] ({ frames := 8, cells := 1, slots := 6, locals := 145 } : Room) (va_Pc [.ref q1, .int x2, .int 1, .ref q3] (PZ g sz [(q40, .inl (g.2 0, 10, .inl f41)), (q36, .inl (g.2 0, 10, .inl f37)), (q31, .inr (9, [.ref q36, .ref q40, .int 1, w35])), (q23, .inr (8, [w24, .ref q31, w26, w27, w28, w29, w30])), (q20, .inl (g.2 3, 10, .inr (.inr (.inr (.inr f21))))), (q16, .inr (10, [.ref q20, .int 0, w19])), (q1, .inr (11, [.ref q16, w6, w7, w8, w9, w10, w11, w12, w13, w14, w15]))])) (QI g [(q40, .inl (g.2 0, 10, .inl f41)), (q36, .inl (g.2 0, 10, .inl f37)), (q31, .inr (9, [.ref q36, .ref q40, .int 1, w35])), (q23, .inr (8, [w24, .ref q31, w26, w27, w28, w29, w30])), (q20, .inl (g.2 3, 10, .inr (.inr (.inr (.inr f21))))), (q16, .inr (10, [.ref q20, .int 0, w19])), (q1, .inr (11, [.ref q16, w6, w7, w8, w9, w10, w11, w12, w13, w14, w15]))] sz 1 (fun _ => [])) 1 6 (va_A [(q40, .inl (g.2 0, 10, .inl f41)), (q36, .inl (g.2 0, 10, .inl f37)), (q31, .inr (9, [.ref q36, .ref q40, .int 1, w35])), (q23, .inr (8, [w24, .ref q31, w26, w27, w28, w29, w30])), (q20, .inl (g.2 3, 10, .inr (.inr (.inr (.inr f21))))), (q16, .inr (10, [.ref q20, .int 0, w19])), (q1, .inr (11, [.ref q16, w6, w7, w8, w9, w10, w11, w12, w13, w14, w15]))] sz) := by
  refine ofH (by decide) (Nat.le_of_ble_eq_true rfl) rfl ?_
  intro p e s m args below meth c A ls hAe hsz hx hb hml hr hlocks hin hown hE hP hD hA hS hl htb hz
  have hown : s.vm.findClass RL = some m.cls := hown
  refine lv_aload_n hx hb dL_timeOf_0 rfl (lv_at hl 3 rfl) ?_
  refine lv_iconst (v := 0) hx hb dL_timeOf_1 (by decide) ?_
  refine lv_aload_n hx hb dL_timeOf_2 rfl (lv_at hl 0 rfl) ?_
  refine lv_iload_n hx hb dL_timeOf_3 rfl (lv_at hl 1 rfl) ?_
  refine lv_iload_n hx hb dL_timeOf_4 rfl (lv_at hl 2 rfl) ?_
  refine gx_i (wr := [(q40, .inl (g.2 0, 10, .inl f41)), (q36, .inl (g.2 0, 10, .inl f37)), (q31, .inr (9, [.ref q36, .ref q40, .int 1, w35])), (q23, .inr (8, [w24, .ref q31, w26, w27, w28, w29, w30])), (q20, .inl (g.2 3, 10, .inr (.inr (.inr (.inr f21))))), (q16, .inr (10, [.ref q20, .int 0, w19])), (q1, .inr (11, [.ref q16, w6, w7, w8, w9, w10, w11, w12, w13, w14, w15]))]) (rVx (rest := [.int 0, .ref q3]) hx hb hml hown hE hP hD hS hA hz 6 rfl rfl (c1811_X9_timeOf l g hlx q1 x2 h4 h39 s.heap.size) (kV_X9_timeOf hE (e962 hE) rfl rfl ⟨(Nat.le_of_ble_eq_true rfl), (Nat.le_of_ble_eq_true rfl)⟩) [] rfl (by decide) rfl hl.1 rfl (lv_room (Nat.le_of_ble_eq_true rfl)) dL_timeOf_5 ⟨(Nat.le_of_ble_eq_true rfl), (Nat.le_of_ble_eq_true rfl)⟩) hP hD hS hA [] [0, 1, 2, 3, 4, 5, 6] rfl rfl (by decide) (by decide) (fun ce9 q9 H locs hP hD hS hq1 hq2 hq3 => ?_)
  have hP : va_P g.1 vwCl [(q40, .inl (g.2 0, 10, .inl f41)), (q36, .inl (g.2 0, 10, .inl f37)), (q31, .inr (9, [.ref q36, .ref q40, .int 1, w35])), (q23, .inr (8, [w24, .ref q31, w26, w27, w28, w29, w30])), (q20, .inl (g.2 3, 10, .inr (.inr (.inr (.inr f21))))), (q16, .inr (10, [.ref q20, .int 0, w19])), (q1, .inr (11, [.ref q16, w6, w7, w8, w9, w10, w11, w12, w13, w14, w15]))] H := hP
  have hD : va_D A [(q40, .inl (g.2 0, 10, .inl f41)), (q36, .inl (g.2 0, 10, .inl f37)), (q31, .inr (9, [.ref q36, .ref q40, .int 1, w35])), (q23, .inr (8, [w24, .ref q31, w26, w27, w28, w29, w30])), (q20, .inl (g.2 3, 10, .inr (.inr (.inr (.inr f21))))), (q16, .inr (10, [.ref q20, .int 0, w19])), (q1, .inr (11, [.ref q16, w6, w7, w8, w9, w10, w11, w12, w13, w14, w15]))] := hD
  refine x_catch (name := "java/lang/IllegalArgumentException") (hh := [(0, 10, 13, 15)]) (tgt := 13) hown htb [] ⟨0, 10, 13, 15⟩ [] rfl (fun _ h => nomatch h) rfl (by decide) (e611 hE) (e641 hE) hq1 hq2 hq3 rfl ?_
  refine lv_astore (lv' := [(4, .ref q9), (0, .ref q1), (1, .int x2), (2, .int 1), (3, .ref q3)]) hx hb dL_timeOf_13 hl (by decide) rfl (fun ls hl => ?_)
  refine lv_iconst (v := 1) hx hb dL_timeOf_15 (by decide) ?_
  exact x_zret hx hb hr rfl rfl hlocks hP hD hS hAe hsz (Nat.le_of_ble_eq_true rfl) (Nat.le_of_ble_eq_true rfl) (fun _ => 0) [] (by decide) rfl dL_timeOf_16

set_option maxHeartbeats 4000000 in
set_option maxRecDepth 100000 in
theorem c1813_X10_timeOf (l : Launch) (g : gG) (q1 : Nat) (x2 : Int32) (w5 w6 w7 w8 w9 w10 w11 w12 w13 w14 w15 w16 w17 w18 w19 w20 w21 w22 w23 w24 w25 w26 w27 w28 w29 w30 w31 w32 w33 w34 w35 w36 w37 w38 w39 w40 w41 : Value) (h3 : (0 : Int32) ≤ x2) (h4 : (30000 : Int32) < x2) (sz : Nat) : Met l yX10_timeOf [Cond.code yX10_timeOf cX10_timeOf 3 (some .int)] ({ frames := 1, cells := 0, slots := 0, locals := 22 } : Room) (va_Pc [.ref q1, .int x2, .int 1] (PX g sz [(q1, .inr (12, [w5, w6, w7, w8, w9, w10, w11, w12, w13, w14, w15, w16, w17, w18, w19, w20, w21, w22, w23, w24, w25, w26, w27, w28, w29, w30, w31, w32, w33, w34, w35, w36, w37, w38, w39, w40, w41]))])) (QI g [(q1, .inr (12, [w5, w6, w7, w8, w9, w10, w11, w12, w13, w14, w15, w16, w17, w18, w19, w20, w21, w22, w23, w24, w25, w26, w27, w28, w29, w30, w31, w32, w33, w34, w35, w36, w37, w38, w39, w40, w41]))] sz 0 (fun _ => [(q1, .inr (12, [w5, w6, w7, w8, w9, w10, .int 1, w12, w13, w14, w15, w16, w17, w18, w19, w20, w21, w22, w23, w24, w25, w26, w27, w28, w29, w30, w31, w32, w33, w34, w35, w36, w37, w38, w39, w40, w41]))])) 0 0 (va_A [(q1, .inr (12, [w5, w6, w7, w8, w9, w10, w11, w12, w13, w14, w15, w16, w17, w18, w19, w20, w21, w22, w23, w24, w25, w26, w27, w28, w29, w30, w31, w32, w33, w34, w35, w36, w37, w38, w39, w40, w41]))] sz) := by
  refine ofN (by decide) (Nat.le_of_ble_eq_true rfl) rfl ?_
  intro p e s m args below meth c A ls hAe hsz hx hb hml hr hlocks hin hown hE hP hD hA hS hl
  have hown : s.vm.findClass RX10 = some m.cls := hown
  refine lv_aload_n hx hb dX10_timeOf_0 rfl (lv_at hl 0 rfl) ?_
  refine lv_iload_n hx hb dX10_timeOf_1 rfl (lv_at hl 1 rfl) ?_
  refine lv_iconst (v := 0) hx hb dX10_timeOf_2 (by decide) ?_
  refine lv_sipush (v := 30000) hx hb dX10_timeOf_3 (by decide) ?_
  refine g0_i (rS (rest := [.ref q1]) hx hb hml hown hE hP hD (c1730_X10_in l g x2 h3 h4 s.heap.size) (kS_X10_in hE (e1431 hE) rfl rfl ⟨(Nat.le_of_ble_eq_true rfl), (Nat.le_of_ble_eq_true rfl)⟩) [] rfl (by decide) rfl hl.1 rfl (lv_room (Nat.le_of_ble_eq_true rfl)) dX10_timeOf_6 ⟨(Nat.le_of_ble_eq_true rfl), (Nat.le_of_ble_eq_true rfl)⟩) hP hD hS hA (fun u9 H locs hP hS => ?_)
  refine lv_if_eq (tgt := 16) hx hb dX10_timeOf_9 (by decide) (fun _ => ?_) (fun h => absurd (by decide) h)
  refine lv_iconst (v := 1) hx hb dX10_timeOf_16 (by decide) ?_
  refine pf_RX10_86 (ws' := [(q1, .inr (12, [w5, w6, w7, w8, w9, w10, .int 1, w12, w13, w14, w15, w16, w17, w18, w19, w20, w21, w22, w23, w24, w25, w26, w27, w28, w29, w30, w31, w32, w33, w34, w35, w36, w37, w38, w39, w40, w41]))]) hx hb hown hE hP hD hS 0 rfl rfl rfl (Nat.le_of_ble_eq_true rfl) dX10_timeOf_17 rfl (fun H locs hP hD hS => ?_)
  refine lv_aload_n hx hb dX10_timeOf_20 rfl (lv_at hl 0 rfl) ?_
  refine gf_RX10_86 hx hb hown hE hP 0 rfl rfl dX10_timeOf_21 ?_
  refine lv_if_le (tgt := 31) hx hb dX10_timeOf_24 (by decide) (fun h => absurd h (by decide)) (fun _ => ?_)
  refine lv_iconst (v := 0) hx hb dX10_timeOf_27 (by decide) ?_
  refine lv_goto (tgt := 37) hx hb dX10_timeOf_28 (by decide) ?_
  exact x_zret hx hb hr rfl rfl hlocks hP hD hS hAe hsz (Nat.le_of_ble_eq_true rfl) (Nat.le_of_ble_eq_true rfl) (fun _ => 0) [0] (by decide) rfl dX10_timeOf_37

set_option maxHeartbeats 4000000 in
set_option maxRecDepth 100000 in
theorem c1814_X9_requireTime (l : Launch) (g : gG) (hlx : l.stackTraces = false) (x1 : Int32) (h2 : x1 < 0) (sz : Nat) : vx_Met l yX9_requireTime [Cond.code yX9_requireTime cX9_requireTime 1 none] ({ frames := 7, cells := 1, slots := 6, locals := 122 } : Room) (va_Pc [.int x1] (PZ g sz [])) NV (XW g [] sz "java/lang/IllegalArgumentException" []) 1 6 (va_A [] sz) := by
  refine ofX (by decide) (Nat.le_of_ble_eq_true rfl) rfl ?_
  intro p e s m args below meth c A ls hAe hsz hx hb hml hr hlocks hin hown hE hP hD hA hS hl hex hz
  have hown : s.vm.findClass RX9 = some m.cls := hown
  refine lv_iload_n hx hb dX9_requireTime_0 rfl (lv_at hl 0 rfl) ?_
  refine lv_iconst (v := 0) hx hb dX9_requireTime_1 (by decide) ?_
  refine lv_ldcw (v := 40000000) hx hb hown (e978 hE) dX9_requireTime_2 ?_
  refine gx_v (wr := []) (rSx (rest := []) hx hb hml hown hE hP hD hS hA hz (c639_X9_requireRange l g hlx x1 40000000 h2 s.heap.size) (kS_X9_requireRange hE (e636 hE) rfl rfl ⟨(Nat.le_of_ble_eq_true rfl), (Nat.le_of_ble_eq_true rfl)⟩) [] rfl (by decide) rfl hl.1 rfl (lv_room (Nat.le_of_ble_eq_true rfl)) dX9_requireTime_5 ⟨(Nat.le_of_ble_eq_true rfl), (Nat.le_of_ble_eq_true rfl)⟩) hP hD hS hA [] [] rfl rfl (by decide) (by decide) (fun ce9 q9 H locs hP hD hS hq1 hq2 hq3 => ?_)
  exact x_out hex hlocks hq1 hq2 hq3 hP hD hS hAe hsz (Nat.le_of_ble_eq_true rfl) (Nat.le_of_ble_eq_true rfl) [] (by decide) rfl

set_option maxHeartbeats 4000000 in
set_option maxRecDepth 100000 in
theorem c1815_X9_tickAt (l : Launch) (g : gG) (hlx : l.stackTraces = false) (q1 : Nat) (x2 : Int32) (h3 : x2 < 0) (sz : Nat) : vx_Met l yX9_tickAt [Cond.code yX9_tickAt cX9_tickAt 2 (some .int)] ({ frames := 8, cells := 1, slots := 6, locals := 142 } : Room) (va_Pc [.ref q1, .int x2] (PZ g sz [])) NI (XW g [] sz "java/lang/IllegalArgumentException" []) 1 6 (va_A [] sz) := by
  refine ofX (by decide) (Nat.le_of_ble_eq_true rfl) rfl ?_
  intro p e s m args below meth c A ls hAe hsz hx hb hml hr hlocks hin hown hE hP hD hA hS hl hex hz
  have hown : s.vm.findClass RX9 = some m.cls := hown
  refine lv_iload_n hx hb dX9_tickAt_0 rfl (lv_at hl 1 rfl) ?_
  refine gx_v (wr := []) (rSx (rest := []) hx hb hml hown hE hP hD hS hA hz (c1814_X9_requireTime l g hlx x2 h3 s.heap.size) (kS_X9_requireTime hE (e975 hE) rfl rfl ⟨(Nat.le_of_ble_eq_true rfl), (Nat.le_of_ble_eq_true rfl)⟩) [] rfl (by decide) rfl hl.1 rfl (lv_room (Nat.le_of_ble_eq_true rfl)) dX9_tickAt_1 ⟨(Nat.le_of_ble_eq_true rfl), (Nat.le_of_ble_eq_true rfl)⟩) hP hD hS hA [] [] rfl rfl (by decide) (by decide) (fun ce9 q9 H locs hP hD hS hq1 hq2 hq3 => ?_)
  exact x_out hex hlocks hq1 hq2 hq3 hP hD hS hAe hsz (Nat.le_of_ble_eq_true rfl) (Nat.le_of_ble_eq_true rfl) [] (by decide) rfl

set_option maxHeartbeats 4000000 in
set_option maxRecDepth 100000 in
theorem c1816_L_tickAt (l : Launch) (g : gG) (hlx : l.stackTraces = false) (q1 q3 : Nat) (x2 : Int32) (w5 w6 w7 w8 w9 w10 w11 w12 w13 w14 w15 : Value) (h4 : x2 < 0) (sz : Nat) : Met l yL_tickAt [Cond.codeWith yL_tickAt cL_tickAt 4 (some .int) [(0, 9, 12, 15)]] ({ frames := 9, cells := 1, slots := 6, locals := 163 } : Room) (va_Pc [.ref q1, .int x2, .ref q3] (PZ g sz [(q1, .inr (11, [w5, w6, w7, w8, w9, w10, w11, w12, w13, w14, w15]))])) (QI g [(q1, .inr (11, [w5, w6, w7, w8, w9, w10, w11, w12, w13, w14, w15]))] sz 1 (fun _ => [])) 1 6 (va_A [(q1, .inr (11, [w5, w6, w7, w8, w9, w10, w11, w12, w13, w14, w15]))] sz) := by
  refine ofH (by decide) (Nat.le_of_ble_eq_true rfl) rfl ?_
  intro p e s m args below meth c A ls hAe hsz hx hb hml hr hlocks hin hown hE hP hD hA hS hl htb hz
  have hown : s.vm.findClass RL = some m.cls := hown
  refine lv_aload_n hx hb dL_tickAt_0 rfl (lv_at hl 2 rfl) ?_
  refine lv_iconst (v := 0) hx hb dL_tickAt_1 (by decide) ?_
  refine lv_aload_n hx hb dL_tickAt_2 rfl (lv_at hl 0 rfl) ?_
  refine lv_iload_n hx hb dL_tickAt_3 rfl (lv_at hl 1 rfl) ?_
  refine gx_i (wr := [(q1, .inr (11, [w5, w6, w7, w8, w9, w10, w11, w12, w13, w14, w15]))]) (rVx (rest := [.int 0, .ref q3]) hx hb hml hown hE hP hD hS hA hz 0 rfl rfl (c1815_X9_tickAt l g hlx q1 x2 h4 s.heap.size) (kV_X9_tickAt hE (e971 hE) rfl rfl ⟨(Nat.le_of_ble_eq_true rfl), (Nat.le_of_ble_eq_true rfl)⟩) [] rfl (by decide) rfl hl.1 rfl (lv_room (Nat.le_of_ble_eq_true rfl)) dL_tickAt_4 ⟨(Nat.le_of_ble_eq_true rfl), (Nat.le_of_ble_eq_true rfl)⟩) hP hD hS hA [] [0] rfl rfl (by decide) (by decide) (fun ce9 q9 H locs hP hD hS hq1 hq2 hq3 => ?_)
  have hP : va_P g.1 vwCl [(q1, .inr (11, [w5, w6, w7, w8, w9, w10, w11, w12, w13, w14, w15]))] H := hP
  have hD : va_D A [(q1, .inr (11, [w5, w6, w7, w8, w9, w10, w11, w12, w13, w14, w15]))] := hD
  refine x_catch (name := "java/lang/IllegalArgumentException") (hh := [(0, 9, 12, 15)]) (tgt := 12) hown htb [] ⟨0, 9, 12, 15⟩ [] rfl (fun _ h => nomatch h) rfl (by decide) (e611 hE) (e641 hE) hq1 hq2 hq3 rfl ?_
  refine lv_astore_n (lv' := [(3, .ref q9), (0, .ref q1), (1, .int x2), (2, .ref q3)]) hx hb dL_tickAt_12 rfl hl (by decide) rfl (fun ls hl => ?_)
  refine lv_iconst (v := 1) hx hb dL_tickAt_13 (by decide) ?_
  exact x_zret hx hb hr rfl rfl hlocks hP hD hS hAe hsz (Nat.le_of_ble_eq_true rfl) (Nat.le_of_ble_eq_true rfl) (fun _ => 0) [] (by decide) rfl dL_tickAt_14

set_option maxHeartbeats 4000000 in
set_option maxRecDepth 100000 in
theorem c1817_X10_tickAt (l : Launch) (g : gG) (q1 : Nat) (x2 : Int32) (w4 w5 w6 w7 w8 w9 w10 w11 w12 w13 w14 w15 w16 w17 w18 w19 w20 w21 w22 w23 w24 w25 w26 w27 w28 w29 w30 w31 w32 w33 w34 w35 w36 w37 w38 w39 w40 : Value) (h3 : x2 < 0) (sz : Nat) : Met l yX10_tickAt [Cond.code yX10_tickAt cX10_tickAt 5 (some .int)] ({ frames := 1, cells := 0, slots := 0, locals := 22 } : Room) (va_Pc [.ref q1, .int x2] (PX g sz [(q1, .inr (12, [w4, w5, w6, w7, w8, w9, w10, w11, w12, w13, w14, w15, w16, w17, w18, w19, w20, w21, w22, w23, w24, w25, w26, w27, w28, w29, w30, w31, w32, w33, w34, w35, w36, w37, w38, w39, w40]))])) (QI g [(q1, .inr (12, [w4, w5, w6, w7, w8, w9, w10, w11, w12, w13, w14, w15, w16, w17, w18, w19, w20, w21, w22, w23, w24, w25, w26, w27, w28, w29, w30, w31, w32, w33, w34, w35, w36, w37, w38, w39, w40]))] sz 0 (fun _ => [(q1, .inr (12, [w4, w5, w6, w7, w8, w9, .int 1, w11, w12, w13, w14, w15, w16, w17, w18, w19, w20, w21, w22, w23, w24, w25, w26, w27, w28, w29, w30, w31, w32, w33, w34, w35, w36, w37, w38, w39, w40]))])) 0 0 (va_A [(q1, .inr (12, [w4, w5, w6, w7, w8, w9, w10, w11, w12, w13, w14, w15, w16, w17, w18, w19, w20, w21, w22, w23, w24, w25, w26, w27, w28, w29, w30, w31, w32, w33, w34, w35, w36, w37, w38, w39, w40]))] sz) := by
  refine ofN (by decide) (Nat.le_of_ble_eq_true rfl) rfl ?_
  intro p e s m args below meth c A ls hAe hsz hx hb hml hr hlocks hin hown hE hP hD hA hS hl
  have hown : s.vm.findClass RX10 = some m.cls := hown
  refine lv_aload_n hx hb dX10_tickAt_0 rfl (lv_at hl 0 rfl) ?_
  refine lv_iload_n hx hb dX10_tickAt_1 rfl (lv_at hl 1 rfl) ?_
  refine lv_iconst (v := 0) hx hb dX10_tickAt_2 (by decide) ?_
  refine lv_ldc (v := 40000000) hx hb hown (e1640 hE) dX10_tickAt_3 ?_
  refine g0_i (rS (rest := [.ref q1]) hx hb hml hown hE hP hD (c642_X10_in l g x2 40000000 h3 s.heap.size) (kS_X10_in hE (e1431 hE) rfl rfl ⟨(Nat.le_of_ble_eq_true rfl), (Nat.le_of_ble_eq_true rfl)⟩) [] rfl (by decide) rfl hl.1 rfl (lv_room (Nat.le_of_ble_eq_true rfl)) dX10_tickAt_5 ⟨(Nat.le_of_ble_eq_true rfl), (Nat.le_of_ble_eq_true rfl)⟩) hP hD hS hA (fun u9 H locs hP hS => ?_)
  refine lv_if_eq (tgt := 15) hx hb dX10_tickAt_8 (by decide) (fun _ => ?_) (fun h => absurd (by decide) h)
  refine lv_iconst (v := 1) hx hb dX10_tickAt_15 (by decide) ?_
  refine pf_RX10_86 (ws' := [(q1, .inr (12, [w4, w5, w6, w7, w8, w9, .int 1, w11, w12, w13, w14, w15, w16, w17, w18, w19, w20, w21, w22, w23, w24, w25, w26, w27, w28, w29, w30, w31, w32, w33, w34, w35, w36, w37, w38, w39, w40]))]) hx hb hown hE hP hD hS 0 rfl rfl rfl (Nat.le_of_ble_eq_true rfl) dX10_tickAt_16 rfl (fun H locs hP hD hS => ?_)
  refine lv_aload_n hx hb dX10_tickAt_19 rfl (lv_at hl 0 rfl) ?_
  refine gf_RX10_86 hx hb hown hE hP 0 rfl rfl dX10_tickAt_20 ?_
  refine lv_if_le (tgt := 28) hx hb dX10_tickAt_23 (by decide) (fun h => absurd h (by decide)) (fun _ => ?_)
  refine lv_iconst (v := 0) hx hb dX10_tickAt_26 (by decide) ?_
  exact x_zret hx hb hr rfl rfl hlocks hP hD hS hAe hsz (Nat.le_of_ble_eq_true rfl) (Nat.le_of_ble_eq_true rfl) (fun _ => 0) [0] (by decide) rfl dX10_tickAt_27

set_option maxHeartbeats 4000000 in
set_option maxRecDepth 100000 in
theorem c1818_X9_requireRange (l : Launch) (g : gG) (x1 : Int32) (h2 : (0 : Int32) ≤ x1) (h3 : x1 ≤ 40000000) (sz : Nat) : Met l yX9_requireRange [Cond.code yX9_requireRange cX9_requireRange 3 none] ({ frames := 0, cells := 0, slots := 0, locals := 0 } : Room) (va_Pc [.int x1, .int 0, .int 40000000] (PX g sz [])) (QV g [] sz (fun _ => [])) 0 0 (va_A [] sz) := by
  refine ofN (by decide) (Nat.le_of_ble_eq_true rfl) rfl ?_
  intro p e s m args below meth c A ls hAe hsz hx hb hml hr hlocks hin hown hE hP hD hA hS hl
  have hown : s.vm.findClass RX9 = some m.cls := hown
  refine lv_iload_n hx hb dX9_requireRange_0 rfl (lv_at hl 0 rfl) ?_
  refine lv_iload_n hx hb dX9_requireRange_1 rfl (lv_at hl 1 rfl) ?_
  refine lv_icmp_lt (tgt := 10) hx hb dX9_requireRange_2 (by decide) (fun h => absurd h (i_nlt h2)) (fun _ => ?_)
  refine lv_iload_n hx hb dX9_requireRange_5 rfl (lv_at hl 0 rfl) ?_
  refine lv_iload_n hx hb dX9_requireRange_6 rfl (lv_at hl 2 rfl) ?_
  refine lv_icmp_le (tgt := 21) hx hb dX9_requireRange_7 (by decide) (fun _ => ?_) (fun h => absurd h3 h)
  exact x_vret hx hb hr hlocks hP hD hS hAe hsz (Nat.le_of_ble_eq_true rfl) (Nat.le_of_ble_eq_true rfl) (fun _ => 0) [] (by decide) rfl dX9_requireRange_21

set_option maxHeartbeats 4000000 in
set_option maxRecDepth 100000 in
theorem c1819_X9_requireTime (l : Launch) (g : gG) (x1 : Int32) (h2 : (0 : Int32) ≤ x1) (h3 : x1 ≤ 40000000) (sz : Nat) : Met l yX9_requireTime [Cond.code yX9_requireTime cX9_requireTime 1 none] ({ frames := 1, cells := 0, slots := 0, locals := 22 } : Room) (va_Pc [.int x1] (PX g sz [])) (QV g [] sz (fun _ => [])) 0 0 (va_A [] sz) := by
  refine ofN (by decide) (Nat.le_of_ble_eq_true rfl) rfl ?_
  intro p e s m args below meth c A ls hAe hsz hx hb hml hr hlocks hin hown hE hP hD hA hS hl
  have hown : s.vm.findClass RX9 = some m.cls := hown
  refine lv_iload_n hx hb dX9_requireTime_0 rfl (lv_at hl 0 rfl) ?_
  refine lv_iconst (v := 0) hx hb dX9_requireTime_1 (by decide) ?_
  refine lv_ldcw (v := 40000000) hx hb hown (e978 hE) dX9_requireTime_2 ?_
  refine g0_v (rS (rest := []) hx hb hml hown hE hP hD (c1818_X9_requireRange l g x1 h2 h3 s.heap.size) (kS_X9_requireRange hE (e636 hE) rfl rfl ⟨(Nat.le_of_ble_eq_true rfl), (Nat.le_of_ble_eq_true rfl)⟩) [] rfl (by decide) rfl hl.1 rfl (lv_room (Nat.le_of_ble_eq_true rfl)) dX9_requireTime_5 ⟨(Nat.le_of_ble_eq_true rfl), (Nat.le_of_ble_eq_true rfl)⟩) hP hD hS hA (fun u9 H locs hP hS => ?_)
  exact x_vret hx hb hr hlocks hP hD hS hAe hsz (Nat.le_of_ble_eq_true rfl) (Nat.le_of_ble_eq_true rfl) (fun _ => 0) [] (by decide) rfl dX9_requireTime_8

set_option maxHeartbeats 4000000 in
set_option maxRecDepth 100000 in
theorem c1820_X7_lastTickBy (l : Launch) (g : gG) (q1 q8 q11 : Nat) (x2 : Int32) (w6 : Value) (f9 : Nat → Int32) (f12 : Nat → Int32) (hf10 : f9 0 = 0) (hf13 : f12 0 = 100) (h7 : (0 : Int32) ≤ x2) (h14 : (x2 / 100) < 30000) (sz : Nat) : Met l yX7_lastTickBy [Cond.code yX7_lastTickBy cX7_lastTickBy 8 (some .int)] ({ frames := 1, cells := 0, slots := 0, locals := 24 } : Room) (va_Pc [.ref q1, .int x2] (PX g sz [(q11, .inl (g.2 0, 10, .inl f12)), (q8, .inl (g.2 0, 10, .inl f9)), (q1, .inr (9, [.ref q8, .ref q11, .int 1, w6]))])) (QI g [(q11, .inl (g.2 0, 10, .inl f12)), (q8, .inl (g.2 0, 10, .inl f9)), (q1, .inr (9, [.ref q8, .ref q11, .int 1, w6]))] sz (x2 / 100) (fun _ => [(q8, .inl (g.2 0, 10, .inl f9)), (q11, .inl (g.2 0, 10, .inl f12)), (q1, .inr (9, [.ref q8, .ref q11, .int 1, w6]))])) 0 0 (va_A [(q11, .inl (g.2 0, 10, .inl f12)), (q8, .inl (g.2 0, 10, .inl f9)), (q1, .inr (9, [.ref q8, .ref q11, .int 1, w6]))] sz) := by
  refine ofN (by decide) (Nat.le_of_ble_eq_true rfl) rfl ?_
  intro p e s m args below meth c A ls hAe hsz hx hb hml hr hlocks hin hown hE hP hD hA hS hl
  have hown : s.vm.findClass RX7 = some m.cls := hown
  refine lv_iconst (v := 0) hx hb dX7_lastTickBy_0 (by decide) ?_
  refine lv_istore_n (lv' := [(2, .int 0), (0, .ref q1), (1, .int x2)]) hx hb dX7_lastTickBy_1 rfl hl (by decide) rfl (fun ls hl => ?_)
  refine lv_iconst (v := 0) hx hb dX7_lastTickBy_2 (by decide) ?_
  refine lv_istore_n (lv' := [(3, .int 0), (2, .int 0), (0, .ref q1), (1, .int x2)]) hx hb dX7_lastTickBy_3 rfl hl (by decide) rfl (fun ls hl => ?_)
  refine lv_iconst (v := 0) hx hb dX7_lastTickBy_4 (by decide) ?_
  refine lv_istore (lv' := [(4, .int 0), (3, .int 0), (2, .int 0), (0, .ref q1), (1, .int x2)]) hx hb dX7_lastTickBy_5 hl (by decide) rfl (fun ls hl => ?_)
  refine lv_iload hx hb dX7_lastTickBy_7 (lv_at hl 0 rfl) ?_
  refine lv_aload_n hx hb dX7_lastTickBy_9 rfl (lv_at hl 3 rfl) ?_
  refine gf_RX7_18 hx hb hown hE hP 2 rfl rfl dX7_lastTickBy_10 ?_
  refine lv_icmp_ge (tgt := 101) hx hb dX7_lastTickBy_13 (by decide) (fun h => absurd h (by decide)) (fun _ => ?_)
  refine lv_iload_n hx hb dX7_lastTickBy_16 rfl (lv_at hl 1 rfl) ?_
  refine lv_iload_n hx hb dX7_lastTickBy_17 rfl (lv_at hl 4 rfl) ?_
  refine lv_icmp_gt (tgt := 101) hx hb dX7_lastTickBy_18 (by decide) (fun h => absurd h (i_nlt h7)) (fun _ => ?_)
  refine lv_aload_n hx hb dX7_lastTickBy_21 rfl (lv_at hl 3 rfl) ?_
  refine lv_iload hx hb dX7_lastTickBy_22 (lv_at hl 0 rfl) ?_
  refine g_i (wr := [(q11, .inl (g.2 0, 10, .inl f12))]) (rV (rest := []) hx hb hml hown hE hP hD 2 rfl rfl (c1707_X7_placeTick l g q1 q8 (.ref q11) (.int 1) w6 f9 (hf10) s.heap.size) (kV_X7_placeTick hE (e409 hE) rfl rfl ⟨(Nat.le_of_ble_eq_true rfl), (Nat.le_of_ble_eq_true rfl)⟩) [1, 2] rfl (by decide) rfl hl.1 rfl (lv_room (Nat.le_of_ble_eq_true rfl)) dX7_lastTickBy_24 ⟨(Nat.le_of_ble_eq_true rfl), (Nat.le_of_ble_eq_true rfl)⟩) hP hD hS hA [1, 2] [0] rfl rfl (by decide) (by decide) (fun u1 H locs hP hD hS => ?_)
  have hP : va_P g.1 vwCl [(q11, .inl (g.2 0, 10, .inl f12)), (q8, .inl (g.2 0, 10, .inl f9)), (q1, .inr (9, [.ref q8, .ref q11, .int 1, w6]))] H := hP
  have hD : va_D A [(q11, .inl (g.2 0, 10, .inl f12)), (q8, .inl (g.2 0, 10, .inl f9)), (q1, .inr (9, [.ref q8, .ref q11, .int 1, w6]))] := hD
  refine lv_istore (lv' := [(5, .int 0), (4, .int 0), (3, .int 0), (2, .int 0), (0, .ref q1), (1, .int x2)]) hx hb dX7_lastTickBy_27 hl (by decide) rfl (fun ls hl => ?_)
  refine lv_iload hx hb dX7_lastTickBy_29 (lv_at hl 1 rfl) ?_
  refine lv_iconst (v := 1) hx hb dX7_lastTickBy_31 (by decide) ?_
  refine x_iadd (v := 1) hx hb dX7_lastTickBy_32 (by decide) ?_
  refine lv_aload_n hx hb dX7_lastTickBy_33 rfl (lv_at hl 4 rfl) ?_
  refine gf_RX7_18 hx hb hown hE hP 2 rfl rfl dX7_lastTickBy_34 ?_
  refine lv_icmp_ge (tgt := 51) hx hb dX7_lastTickBy_37 (by decide) (fun _ => ?_) (fun h => absurd (by decide) h)
  refine lv_sipush (v := 30000) hx hb dX7_lastTickBy_51 (by decide) ?_
  refine lv_istore (lv' := [(6, .int 30000), (5, .int 0), (4, .int 0), (3, .int 0), (2, .int 0), (0, .ref q1), (1, .int x2)]) hx hb dX7_lastTickBy_54 hl (by decide) rfl (fun ls hl => ?_)
  refine lv_aload_n hx hb dX7_lastTickBy_56 rfl (lv_at hl 5 rfl) ?_
  refine lv_iload hx hb dX7_lastTickBy_57 (lv_at hl 2 rfl) ?_
  refine g_i (wr := [(q8, .inl (g.2 0, 10, .inl f9))]) (rV (rest := []) hx hb hml hown hE hP hD 2 rfl rfl (c1742_X7_placePace l g q1 q11 (.ref q8) (.int 1) w6 f12 (hf13) H.size) (kV_X7_placePace hE (e413 hE) rfl rfl ⟨(Nat.le_of_ble_eq_true rfl), (Nat.le_of_ble_eq_true rfl)⟩) [0, 2] rfl (by decide) rfl hl.1 rfl (lv_room (Nat.le_of_ble_eq_true rfl)) dX7_lastTickBy_59 ⟨(Nat.le_of_ble_eq_true rfl), (Nat.le_of_ble_eq_true rfl)⟩) hP hD hS hA [0, 2] [1] rfl rfl (by decide) (by decide) (fun u2 H locs hP hD hS => ?_)
  have hP : va_P g.1 vwCl [(q8, .inl (g.2 0, 10, .inl f9)), (q11, .inl (g.2 0, 10, .inl f12)), (q1, .inr (9, [.ref q8, .ref q11, .int 1, w6]))] H := hP
  have hD : va_D A [(q8, .inl (g.2 0, 10, .inl f9)), (q11, .inl (g.2 0, 10, .inl f12)), (q1, .inr (9, [.ref q8, .ref q11, .int 1, w6]))] := hD
  refine lv_istore (lv' := [(7, .int 100), (6, .int 30000), (5, .int 0), (4, .int 0), (3, .int 0), (2, .int 0), (0, .ref q1), (1, .int x2)]) hx hb dX7_lastTickBy_62 hl (by decide) rfl (fun ls hl => ?_)
  refine lv_iload hx hb dX7_lastTickBy_64 (lv_at hl 0 rfl) ?_
  refine lv_if_le (tgt := 84) hx hb dX7_lastTickBy_66 (by decide) (fun h => absurd h (by decide)) (fun _ => ?_)
  refine lv_iload hx hb dX7_lastTickBy_69 (lv_at hl 1 rfl) ?_
  refine lv_iload hx hb dX7_lastTickBy_71 (lv_at hl 2 rfl) ?_
  refine lv_iload_n hx hb dX7_lastTickBy_73 rfl (lv_at hl 7 rfl) ?_
  refine lv_iload_n hx hb dX7_lastTickBy_74 rfl (lv_at hl 4 rfl) ?_
  refine x_isub (v := x2) hx hb dX7_lastTickBy_75 (Int32.sub_zero _) ?_
  refine lv_iload hx hb dX7_lastTickBy_76 (lv_at hl 0 rfl) ?_
  refine lv_idiv hx hb dX7_lastTickBy_78 (by decide) ?_
  refine x_top (v := (x2 / 100)) rfl ?_
  refine x_iadd (v := (x2 / 100)) hx hb dX7_lastTickBy_79 (Int32.zero_add _) ?_
  refine x_mmin (v := (x2 / 100)) hx hb (by rw [hml]; exact hl.1.symm) hown (e983 hE) (e362 hE) (e9 hE) (e363 hE) (Nat.le_of_ble_eq_true rfl) (Nat.le_of_ble_eq_true rfl) (Nat.le_of_ble_eq_true rfl) (Nat.le_of_ble_eq_true rfl) (if_pos h14) dX7_lastTickBy_80 ?_
  refine lv_istore_n (lv' := [(2, .int (x2 / 100)), (7, .int 100), (6, .int 30000), (5, .int 0), (4, .int 0), (3, .int 0), (0, .ref q1), (1, .int x2)]) hx hb dX7_lastTickBy_83 rfl hl (by decide) rfl (fun ls hl => ?_)
  refine lv_iload_n hx hb dX7_lastTickBy_84 rfl (lv_at hl 5 rfl) ?_
  refine lv_iload hx hb dX7_lastTickBy_85 (lv_at hl 2 rfl) ?_
  refine lv_iload hx hb dX7_lastTickBy_87 (lv_at hl 3 rfl) ?_
  refine x_isub (v := 30000) hx hb dX7_lastTickBy_89 (by decide) ?_
  refine lv_iload hx hb dX7_lastTickBy_90 (lv_at hl 1 rfl) ?_
  refine x_imul (v := 3000000) hx hb dX7_lastTickBy_92 (by decide) ?_
  refine x_iadd (v := 3000000) hx hb dX7_lastTickBy_93 (by decide) ?_
  refine lv_istore_n (lv' := [(3, .int 3000000), (2, .int (x2 / 100)), (7, .int 100), (6, .int 30000), (5, .int 0), (4, .int 0), (0, .ref q1), (1, .int x2)]) hx hb dX7_lastTickBy_94 rfl hl (by decide) rfl (fun ls hl => ?_)
  refine lv_iinc (v := 1) (lv' := [(4, .int 1), (3, .int 3000000), (2, .int (x2 / 100)), (7, .int 100), (6, .int 30000), (5, .int 0), (0, .ref q1), (1, .int x2)]) hx hb dX7_lastTickBy_95 hl (k := 5) rfl (by decide) (by decide) rfl (fun ls hl => ?_)
  refine lv_goto (tgt := 7) hx hb dX7_lastTickBy_98 (by decide) ?_
  refine lv_iload hx hb dX7_lastTickBy_7 (lv_at hl 0 rfl) ?_
  refine lv_aload_n hx hb dX7_lastTickBy_9 rfl (lv_at hl 6 rfl) ?_
  refine gf_RX7_18 hx hb hown hE hP 2 rfl rfl dX7_lastTickBy_10 ?_
  refine lv_icmp_ge (tgt := 101) hx hb dX7_lastTickBy_13 (by decide) (fun _ => ?_) (fun h => absurd (by decide) h)
  refine lv_iload_n hx hb dX7_lastTickBy_101 rfl (lv_at hl 2 rfl) ?_
  exact x_zret hx hb hr rfl rfl hlocks hP hD hS hAe hsz (Nat.le_of_ble_eq_true rfl) (Nat.le_of_ble_eq_true rfl) (fun _ => 0) [0, 1, 2] (by decide) rfl dX7_lastTickBy_102
