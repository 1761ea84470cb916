set_option maxHeartbeats 4000000 in
set_option maxRecDepth 100000 in
theorem c1542_X10_addClip (l : Launch) (g : gG) (q1 q51 q54 q56 q57 q74 : Nat) (x2 x3 x4 x5 : Int32) (w7 w9 w12 w15 w16 w17 w18 w19 w20 w21 w22 w23 w24 w25 w26 w27 w28 w29 w30 w31 w32 w33 w34 w35 w36 w37 w38 w39 w40 w41 w42 : Value) (f52 : Nat → Int32) (f55 : Nat → Int32) (hf53 : f52 392 = 0) (hf58 : f52 0 = 0) (hf59 : f52 49 = 0) (hf60 : f52 98 = 0) (hf61 : f52 147 = 0) (hf62 : f52 196 = 0) (hf63 : f52 245 = 0) (hf64 : f52 294 = 0) (hf65 : f52 343 = 0) (hf66 : f55 0 = 0) (hf67 : f55 1 = 0) (hf68 : f55 2 = 0) (hf69 : f55 3 = 0) (hf70 : f55 4 = 0) (hf71 : f55 5 = 0) (hf72 : f55 6 = 0) (hf73 : f55 7 = 0) (h43 : (0 : Int32) ≤ x2) (h44 : x2 ≤ 9999) (h45 : (1 : Int32) ≤ x3) (h46 : x3 ≤ 9) (h47 : ((-50) : Int32) ≤ x4) (h48 : x4 ≤ 50) (h49 : (0 : Int32) ≤ x5) (h50 : x5 ≤ 3) (sz : Nat) : Met l yX10_addClip [Cond.code yX10_addClip cX10_addClip 8 (some .int)] ({ frames := 4, cells := 0, slots := 0, locals := 89 } : Room) (va_Pc [.ref q1, .int x2, .int 3, .int x3, .int x4, .int x5] (PX g sz [(q74, .inl (g.2 0, 3976, .inl f55)), (q57, .inl (g.2 0, 8, .inl f55)), (q56, .inl (g.2 0, 8, .inl f55)), (q54, .inl (g.2 0, 497, .inl f55)), (q51, .inl (g.2 0, 497, .inl f52)), (q1, .inr (12, [.ref q51, w7, .ref q54, w9, .ref q74, .int 0, w12, .ref q56, .ref q57, w15, w16, w17, w18, w19, w20, w21, w22, w23, w24, w25, w26, w27, w28, w29, w30, w31, w32, w33, w34, w35, w36, w37, w38, w39, w40, w41, w42]))])) (QI g [(q74, .inl (g.2 0, 3976, .inl f55)), (q57, .inl (g.2 0, 8, .inl f55)), (q56, .inl (g.2 0, 8, .inl f55)), (q54, .inl (g.2 0, 497, .inl f55)), (q51, .inl (g.2 0, 497, .inl f52)), (q1, .inr (12, [.ref q51, w7, .ref q54, w9, .ref q74, .int 0, w12, .ref q56, .ref q57, w15, w16, w17, w18, w19, w20, w21, w22, w23, w24, w25, w26, w27, w28, w29, w30, w31, w32, w33, w34, w35, w36, w37, w38, w39, w40, w41, w42]))] sz 0 (fun _ => [(q1, .inr (12, [.ref q51, w7, .ref q54, w9, .ref q74, .int 1, .int 0, .ref q56, .ref q57, w15, w16, w17, w18, w19, w20, w21, w22, w23, w24, w25, w26, w27, w28, w29, w30, w31, w32, w33, w34, w35, w36, w37, w38, w39, w40, w41, w42]))])) 0 0 (va_A [(q74, .inl (g.2 0, 3976, .inl f55)), (q57, .inl (g.2 0, 8, .inl f55)), (q56, .inl (g.2 0, 8, .inl f55)), (q54, .inl (g.2 0, 497, .inl f55)), (q51, .inl (g.2 0, 497, .inl f52)), (q1, .inr (12, [.ref q51, w7, .ref q54, w9, .ref q74, .int 0, w12, .ref q56, .ref q57, w15, w16, w17, w18, w19, w20, w21, w22, w23, w24, w25, w26, w27, w28, w29, w30, w31, w32, w33, w34, w35, w36, w37, w38, w39, w40, w41, w42]))] sz) := by
  refine ofN (by decide) (Nat.le_of_ble_eq_true rfl) rfl ?_
  intro p e s m args below meth c A ls hAe hsz hx hb hml hr hlocks hin hown hE hP hD hA hS hl
  have hown : s.vm.findClass RX10 = some m.cls := hown
  refine lv_aload_n hx hb dX10_addClip_0 rfl (lv_at hl 0 rfl) ?_
  refine lv_iconst (v := 0) hx hb dX10_addClip_1 (by decide) ?_
  refine pf_RX10_86 (ws' := [(q74, .inl (g.2 0, 3976, .inl f55)), (q57, .inl (g.2 0, 8, .inl f55)), (q56, .inl (g.2 0, 8, .inl f55)), (q54, .inl (g.2 0, 497, .inl f55)), (q51, .inl (g.2 0, 497, .inl f52)), (q1, .inr (12, [.ref q51, w7, .ref q54, w9, .ref q74, .int 0, .int 0, .ref q56, .ref q57, w15, w16, w17, w18, w19, w20, w21, w22, w23, w24, w25, w26, w27, w28, w29, w30, w31, w32, w33, w34, w35, w36, w37, w38, w39, w40, w41, w42]))]) hx hb hown hE hP hD hS 5 rfl rfl rfl (Nat.le_of_ble_eq_true rfl) dX10_addClip_2 rfl (fun H locs hP hD hS => ?_)
  refine lv_iload_n hx hb dX10_addClip_5 rfl (lv_at hl 1 rfl) ?_
  refine lv_iconst (v := 0) hx hb dX10_addClip_6 (by decide) ?_
  refine lv_sipush (v := 9999) hx hb dX10_addClip_7 (by decide) ?_
  refine g0_i (rS (rest := []) hx hb hml hown hE hP hD (c1480_X10_in l g x2 h43 h44 H.size) (kS_X10_in hE (e1431 hE) rfl rfl ⟨(Nat.le_of_ble_eq_true rfl), (Nat.le_of_ble_eq_true rfl)⟩) [] rfl (by decide) rfl hl.1 rfl (lv_room (Nat.le_of_ble_eq_true rfl)) dX10_addClip_10 ⟨(Nat.le_of_ble_eq_true rfl), (Nat.le_of_ble_eq_true rfl)⟩) hP hD hS hA (fun u9 H locs hP hS => ?_)
  refine lv_if_eq (tgt := 59) hx hb dX10_addClip_13 (by decide) (fun h => absurd h (by decide)) (fun _ => ?_)
  refine lv_iload_n hx hb dX10_addClip_16 rfl (lv_at hl 2 rfl) ?_
  refine g0_i (rS (rest := []) hx hb hml hown hE hP hD (c94_X10_isPattern l g 3 (by decide) (by decide) H.size) (kS_X10_isPattern hE (e1428 hE) rfl rfl ⟨(Nat.le_of_ble_eq_true rfl), (Nat.le_of_ble_eq_true rfl)⟩) [] rfl (by decide) rfl hl.1 rfl (lv_room (Nat.le_of_ble_eq_true rfl)) dX10_addClip_17 ⟨(Nat.le_of_ble_eq_true rfl), (Nat.le_of_ble_eq_true rfl)⟩) hP hD hS hA (fun u9 H locs hP hS => ?_)
  refine lv_if_eq (tgt := 59) hx hb dX10_addClip_20 (by decide) (fun h => absurd h (by decide)) (fun _ => ?_)
  refine lv_iload_n hx hb dX10_addClip_23 rfl (lv_at hl 3 rfl) ?_
  refine lv_iconst (v := 1) hx hb dX10_addClip_24 (by decide) ?_
  refine lv_bipush (v := 9) hx hb dX10_addClip_25 (by decide) ?_
  refine g0_i (rS (rest := []) hx hb hml hown hE hP hD (c196_X10_in l g x3 h45 h46 H.size) (kS_X10_in hE (e1431 hE) rfl rfl ⟨(Nat.le_of_ble_eq_true rfl), (Nat.le_of_ble_eq_true rfl)⟩) [] rfl (by decide) rfl hl.1 rfl (lv_room (Nat.le_of_ble_eq_true rfl)) dX10_addClip_27 ⟨(Nat.le_of_ble_eq_true rfl), (Nat.le_of_ble_eq_true rfl)⟩) hP hD hS hA (fun u9 H locs hP hS => ?_)
  refine lv_if_eq (tgt := 59) hx hb dX10_addClip_30 (by decide) (fun h => absurd h (by decide)) (fun _ => ?_)
  refine lv_iload hx hb dX10_addClip_33 (lv_at hl 4 rfl) ?_
  refine lv_bipush (v := (-50)) hx hb dX10_addClip_35 (by decide) ?_
  refine lv_bipush (v := 50) hx hb dX10_addClip_37 (by decide) ?_
  refine g0_i (rS (rest := []) hx hb hml hown hE hP hD (c1494_X10_in l g x4 h47 h48 H.size) (kS_X10_in hE (e1431 hE) rfl rfl ⟨(Nat.le_of_ble_eq_true rfl), (Nat.le_of_ble_eq_true rfl)⟩) [] rfl (by decide) rfl hl.1 rfl (lv_room (Nat.le_of_ble_eq_true rfl)) dX10_addClip_39 ⟨(Nat.le_of_ble_eq_true rfl), (Nat.le_of_ble_eq_true rfl)⟩) hP hD hS hA (fun u9 H locs hP hS => ?_)
  refine lv_if_eq (tgt := 59) hx hb dX10_addClip_42 (by decide) (fun h => absurd h (by decide)) (fun _ => ?_)
  refine lv_iload hx hb dX10_addClip_45 (lv_at hl 5 rfl) ?_
  refine lv_iconst (v := 0) hx hb dX10_addClip_47 (by decide) ?_
  refine lv_iconst (v := 3) hx hb dX10_addClip_48 (by decide) ?_
  refine g0_i (rS (rest := []) hx hb hml hown hE hP hD (c818_X10_in l g x5 h49 h50 H.size) (kS_X10_in hE (e1431 hE) rfl rfl ⟨(Nat.le_of_ble_eq_true rfl), (Nat.le_of_ble_eq_true rfl)⟩) [] rfl (by decide) rfl hl.1 rfl (lv_room (Nat.le_of_ble_eq_true rfl)) dX10_addClip_49 ⟨(Nat.le_of_ble_eq_true rfl), (Nat.le_of_ble_eq_true rfl)⟩) hP hD hS hA (fun u9 H locs hP hS => ?_)
  refine lv_if_eq (tgt := 59) hx hb dX10_addClip_52 (by decide) (fun h => absurd h (by decide)) (fun _ => ?_)
  refine lv_iconst (v := 1) hx hb dX10_addClip_55 (by decide) ?_
  refine lv_goto (tgt := 60) hx hb dX10_addClip_56 (by decide) ?_
  refine lv_istore (lv' := [(6, .int 1), (0, .ref q1), (1, .int x2), (2, .int 3), (3, .int x3), (4, .int x4), (5, .int x5)]) hx hb dX10_addClip_60 hl (by decide) rfl (fun ls hl => ?_)
  refine lv_iload hx hb dX10_addClip_62 (lv_at hl 0 rfl) ?_
  refine lv_if_ne (tgt := 73) hx hb dX10_addClip_64 (by decide) (fun _ => ?_) (fun h => absurd h (by decide))
  refine lv_aload_n hx hb dX10_addClip_73 rfl (lv_at hl 1 rfl) ?_
  refine gf_RX10_9 hx hb hown hE hP 5 rfl rfl dX10_addClip_74 ?_
  refine lv_sipush (v := 392) hx hb dX10_addClip_77 (by decide) ?_
  refine x_iald (v := 0) hx hb hE hP 4 rfl 392 (x_in (by decide)) (by decide) hf53 dX10_addClip_80 ?_
  refine lv_bipush (v := 12) hx hb dX10_addClip_81 (by decide) ?_
  refine lv_icmp_ne (tgt := 92) hx hb dX10_addClip_83 (by decide) (fun _ => ?_) (fun h => absurd h (by decide))
  refine lv_aload_n hx hb dX10_addClip_92 rfl (lv_at hl 1 rfl) ?_
  refine g_v (wr := [(q74, .inl (g.2 0, 3976, .inl f55)), (q57, .inl (g.2 0, 8, .inl f55)), (q56, .inl (g.2 0, 8, .inl f55))]) (rV (rest := []) hx hb hml hown hE hP hD 5 rfl rfl (c198_X10_putAside l g q1 q54 q51 w7 w9 (.ref q74) (.int 0) (.int 0) (.ref q56) (.ref q57) w15 w16 w17 w18 w19 w20 w21 w22 w23 w24 w25 w26 w27 w28 w29 w30 w31 w32 w33 w34 w35 w36 w37 w38 w39 w40 w41 w42 f52 f55 H.size) (kV_X10_putAside hE (e1437 hE) rfl rfl ⟨(Nat.le_of_ble_eq_true rfl), (Nat.le_of_ble_eq_true rfl)⟩) [3, 4, 5] rfl (by decide) rfl hl.1 rfl (lv_room (Nat.le_of_ble_eq_true rfl)) dX10_addClip_93 ⟨(Nat.le_of_ble_eq_true rfl), (Nat.le_of_ble_eq_true rfl)⟩) hP hD hS hA [3, 4, 5] [0, 1, 2] rfl rfl (by decide) (by decide) (fun u6 H locs hP hD hS => ?_)
  have hP : va_P g.1 vwCl [(q74, .inl (g.2 0, 3976, .inl f55)), (q57, .inl (g.2 0, 8, .inl f55)), (q56, .inl (g.2 0, 8, .inl f55)), (q54, .inl (g.2 0, 497, .inl (cpF 497 f52 f55))), (q51, .inl (g.2 0, 497, .inl f52)), (q1, .inr (12, [.ref q51, w7, .ref q54, w9, .ref q74, .int 0, .int 0, .ref q56, .ref q57, w15, w16, w17, w18, w19, w20, w21, w22, w23, w24, w25, w26, w27, w28, w29, w30, w31, w32, w33, w34, w35, w36, w37, w38, w39, w40, w41, w42]))] H := hP
  have hD : va_D A [(q74, .inl (g.2 0, 3976, .inl f55)), (q57, .inl (g.2 0, 8, .inl f55)), (q56, .inl (g.2 0, 8, .inl f55)), (q54, .inl (g.2 0, 497, .inl (cpF 497 f52 f55))), (q51, .inl (g.2 0, 497, .inl f52)), (q1, .inr (12, [.ref q51, w7, .ref q54, w9, .ref q74, .int 0, .int 0, .ref q56, .ref q57, w15, w16, w17, w18, w19, w20, w21, w22, w23, w24, w25, w26, w27, w28, w29, w30, w31, w32, w33, w34, w35, w36, w37, w38, w39, w40, w41, w42]))] := hD
  refine lv_sipush (v := 393) hx hb dX10_addClip_96 (by decide) ?_
  refine lv_iconst (v := 5) hx hb dX10_addClip_99 (by decide) ?_
  refine lv_aload_n hx hb dX10_addClip_100 rfl (lv_at hl 1 rfl) ?_
  refine gf_RX10_9 hx hb hown hE hP 5 rfl rfl dX10_addClip_101 ?_
  refine lv_sipush (v := 392) hx hb dX10_addClip_104 (by decide) ?_
  refine x_iald (v := 0) hx hb hE hP 4 rfl 392 (x_in (by decide)) (by decide) hf53 dX10_addClip_107 ?_
  refine x_imul (v := 0) hx hb dX10_addClip_108 (by decide) ?_
  refine x_iadd (v := 393) hx hb dX10_addClip_109 (by decide) ?_
  refine lv_istore (lv' := [(7, .int 393), (6, .int 1), (0, .ref q1), (1, .int x2), (2, .int 3), (3, .int x3), (4, .int x4), (5, .int x5)]) hx hb dX10_addClip_110 hl (by decide) rfl (fun ls hl => ?_)
  refine lv_aload_n hx hb dX10_addClip_112 rfl (lv_at hl 2 rfl) ?_
  refine gf_RX10_9 hx hb hown hE hP 5 rfl rfl dX10_addClip_113 ?_
  refine lv_iload hx hb dX10_addClip_116 (lv_at hl 0 rfl) ?_
  refine lv_iload_n hx hb dX10_addClip_118 rfl (lv_at hl 3 rfl) ?_
  refine x_iast (ws' := [(q74, .inl (g.2 0, 3976, .inl f55)), (q57, .inl (g.2 0, 8, .inl f55)), (q56, .inl (g.2 0, 8, .inl f55)), (q54, .inl (g.2 0, 497, .inl (cpF 497 f52 f55))), (q51, .inl (g.2 0, 497, .inl (upd f52 393 x2))), (q1, .inr (12, [.ref q51, w7, .ref q54, w9, .ref q74, .int 0, .int 0, .ref q56, .ref q57, w15, w16, w17, w18, w19, w20, w21, w22, w23, w24, w25, w26, w27, w28, w29, w30, w31, w32, w33, w34, w35, w36, w37, w38, w39, w40, w41, w42]))]) hx hb hE hP hD hS 4 rfl 393 (x_in (by decide)) (by decide) dX10_addClip_119 rfl (fun H locs hP hD hS => ?_)
  refine lv_aload_n hx hb dX10_addClip_120 rfl (lv_at hl 2 rfl) ?_
  refine gf_RX10_9 hx hb hown hE hP 5 rfl rfl dX10_addClip_121 ?_
  refine lv_iload hx hb dX10_addClip_124 (lv_at hl 0 rfl) ?_
  refine lv_iconst (v := 1) hx hb dX10_addClip_126 (by decide) ?_
  refine x_iadd (v := 394) hx hb dX10_addClip_127 (by decide) ?_
  refine lv_iload_n hx hb dX10_addClip_128 rfl (lv_at hl 4 rfl) ?_
  refine x_iast (ws' := [(q74, .inl (g.2 0, 3976, .inl f55)), (q57, .inl (g.2 0, 8, .inl f55)), (q56, .inl (g.2 0, 8, .inl f55)), (q54, .inl (g.2 0, 497, .inl (cpF 497 f52 f55))), (q51, .inl (g.2 0, 497, .inl (upd (upd f52 393 x2) 394 3))), (q1, .inr (12, [.ref q51, w7, .ref q54, w9, .ref q74, .int 0, .int 0, .ref q56, .ref q57, w15, w16, w17, w18, w19, w20, w21, w22, w23, w24, w25, w26, w27, w28, w29, w30, w31, w32, w33, w34, w35, w36, w37, w38, w39, w40, w41, w42]))]) hx hb hE hP hD hS 4 rfl 394 (x_in (by decide)) (by decide) dX10_addClip_129 rfl (fun H locs hP hD hS => ?_)
  refine lv_aload_n hx hb dX10_addClip_130 rfl (lv_at hl 2 rfl) ?_
  refine gf_RX10_9 hx hb hown hE hP 5 rfl rfl dX10_addClip_131 ?_
  refine lv_iload hx hb dX10_addClip_134 (lv_at hl 0 rfl) ?_
  refine lv_iconst (v := 2) hx hb dX10_addClip_136 (by decide) ?_
  refine x_iadd (v := 395) hx hb dX10_addClip_137 (by decide) ?_
  refine lv_iload_n hx hb dX10_addClip_138 rfl (lv_at hl 5 rfl) ?_
  refine x_iast (ws' := [(q74, .inl (g.2 0, 3976, .inl f55)), (q57, .inl (g.2 0, 8, .inl f55)), (q56, .inl (g.2 0, 8, .inl f55)), (q54, .inl (g.2 0, 497, .inl (cpF 497 f52 f55))), (q51, .inl (g.2 0, 497, .inl (upd (upd (upd f52 393 x2) 394 3) 395 x3))), (q1, .inr (12, [.ref q51, w7, .ref q54, w9, .ref q74, .int 0, .int 0, .ref q56, .ref q57, w15, w16, w17, w18, w19, w20, w21, w22, w23, w24, w25, w26, w27, w28, w29, w30, w31, w32, w33, w34, w35, w36, w37, w38, w39, w40, w41, w42]))]) hx hb hE hP hD hS 4 rfl 395 (x_in (by decide)) (by decide) dX10_addClip_139 rfl (fun H locs hP hD hS => ?_)
  refine lv_aload_n hx hb dX10_addClip_140 rfl (lv_at hl 2 rfl) ?_
  refine gf_RX10_9 hx hb hown hE hP 5 rfl rfl dX10_addClip_141 ?_
  refine lv_iload hx hb dX10_addClip_144 (lv_at hl 0 rfl) ?_
  refine lv_iconst (v := 3) hx hb dX10_addClip_146 (by decide) ?_
  refine x_iadd (v := 396) hx hb dX10_addClip_147 (by decide) ?_
  refine lv_iload hx hb dX10_addClip_148 (lv_at hl 6 rfl) ?_
  refine x_iast (ws' := [(q74, .inl (g.2 0, 3976, .inl f55)), (q57, .inl (g.2 0, 8, .inl f55)), (q56, .inl (g.2 0, 8, .inl f55)), (q54, .inl (g.2 0, 497, .inl (cpF 497 f52 f55))), (q51, .inl (g.2 0, 497, .inl (upd (upd (upd (upd f52 393 x2) 394 3) 395 x3) 396 x4))), (q1, .inr (12, [.ref q51, w7, .ref q54, w9, .ref q74, .int 0, .int 0, .ref q56, .ref q57, w15, w16, w17, w18, w19, w20, w21, w22, w23, w24, w25, w26, w27, w28, w29, w30, w31, w32, w33, w34, w35, w36, w37, w38, w39, w40, w41, w42]))]) hx hb hE hP hD hS 4 rfl 396 (x_in (by decide)) (by decide) dX10_addClip_150 rfl (fun H locs hP hD hS => ?_)
  refine lv_aload_n hx hb dX10_addClip_151 rfl (lv_at hl 2 rfl) ?_
  refine gf_RX10_9 hx hb hown hE hP 5 rfl rfl dX10_addClip_152 ?_
  refine lv_iload hx hb dX10_addClip_155 (lv_at hl 0 rfl) ?_
  refine lv_iconst (v := 4) hx hb dX10_addClip_157 (by decide) ?_
  refine x_iadd (v := 397) hx hb dX10_addClip_158 (by decide) ?_
  refine lv_iload hx hb dX10_addClip_159 (lv_at hl 7 rfl) ?_
  refine x_iast (ws' := [(q74, .inl (g.2 0, 3976, .inl f55)), (q57, .inl (g.2 0, 8, .inl f55)), (q56, .inl (g.2 0, 8, .inl f55)), (q54, .inl (g.2 0, 497, .inl (cpF 497 f52 f55))), (q51, .inl (g.2 0, 497, .inl (upd (upd (upd (upd (upd f52 393 x2) 394 3) 395 x3) 396 x4) 397 x5))), (q1, .inr (12, [.ref q51, w7, .ref q54, w9, .ref q74, .int 0, .int 0, .ref q56, .ref q57, w15, w16, w17, w18, w19, w20, w21, w22, w23, w24, w25, w26, w27, w28, w29, w30, w31, w32, w33, w34, w35, w36, w37, w38, w39, w40, w41, w42]))]) hx hb hE hP hD hS 4 rfl 397 (x_in (by decide)) (by decide) dX10_addClip_161 rfl (fun H locs hP hD hS => ?_)
  refine lv_aload_n hx hb dX10_addClip_162 rfl (lv_at hl 2 rfl) ?_
  refine gf_RX10_9 hx hb hown hE hP 5 rfl rfl dX10_addClip_163 ?_
  refine lv_sipush (v := 392) hx hb dX10_addClip_166 (by decide) ?_
  refine lv_dup2_11 hx hb dX10_addClip_169 rfl rfl ?_
  refine x_iald (v := 0) hx hb hE hP 4 rfl 392 (x_in (by decide)) (by decide) ((pk_un (by decide)).trans ((pk_un (by decide)).trans ((pk_un (by decide)).trans ((pk_un (by decide)).trans ((pk_un (by decide)).trans hf53))))) dX10_addClip_170 ?_
  refine lv_iconst (v := 1) hx hb dX10_addClip_171 (by decide) ?_
  refine x_iadd (v := 1) hx hb dX10_addClip_172 (by decide) ?_
  refine x_iast (ws' := [(q74, .inl (g.2 0, 3976, .inl f55)), (q57, .inl (g.2 0, 8, .inl f55)), (q56, .inl (g.2 0, 8, .inl f55)), (q54, .inl (g.2 0, 497, .inl (cpF 497 f52 f55))), (q51, .inl (g.2 0, 497, .inl (upd (upd (upd (upd (upd (upd f52 393 x2) 394 3) 395 x3) 396 x4) 397 x5) 392 1))), (q1, .inr (12, [.ref q51, w7, .ref q54, w9, .ref q74, .int 0, .int 0, .ref q56, .ref q57, w15, w16, w17, w18, w19, w20, w21, w22, w23, w24, w25, w26, w27, w28, w29, w30, w31, w32, w33, w34, w35, w36, w37, w38, w39, w40, w41, w42]))]) hx hb hE hP hD hS 4 rfl 392 (x_in (by decide)) (by decide) dX10_addClip_173 rfl (fun H locs hP hD hS => ?_)
  refine lv_aload_n hx hb dX10_addClip_174 rfl (lv_at hl 2 rfl) ?_
  refine g_i (wr := [(q74, .inl (g.2 0, 3976, .inl f55)), (q54, .inl (g.2 0, 497, .inl (cpF 497 f52 f55)))]) (rV (rest := []) hx hb hml hown hE hP hD 5 rfl rfl (c1541_X10_isTooGreat l g q1 q51 q56 q57 x3 w7 (.ref q54) w9 (.ref q74) (.int 0) (.int 0) w15 w16 w17 w18 w19 w20 w21 w22 w23 w24 w25 w26 w27 w28 w29 w30 w31 w32 w33 w34 w35 w36 w37 w38 w39 w40 w41 w42 (upd (upd (upd (upd (upd (upd f52 393 x2) 394 3) 395 x3) 396 x4) 397 x5) 392 1) f55 (((pk_un (by decide)).trans ((pk_un (by decide)).trans ((pk_un (by decide)).trans ((pk_un (by decide)).trans ((pk_un (by decide)).trans ((pk_un (by decide)).trans hf58))))))) (((pk_un (by decide)).trans ((pk_un (by decide)).trans ((pk_un (by decide)).trans ((pk_un (by decide)).trans ((pk_un (by decide)).trans ((pk_un (by decide)).trans hf59))))))) (((pk_un (by decide)).trans ((pk_un (by decide)).trans ((pk_un (by decide)).trans ((pk_un (by decide)).trans ((pk_un (by decide)).trans ((pk_un (by decide)).trans hf60))))))) (((pk_un (by decide)).trans ((pk_un (by decide)).trans ((pk_un (by decide)).trans ((pk_un (by decide)).trans ((pk_un (by decide)).trans ((pk_un (by decide)).trans hf61))))))) (((pk_un (by decide)).trans ((pk_un (by decide)).trans ((pk_un (by decide)).trans ((pk_un (by decide)).trans ((pk_un (by decide)).trans ((pk_un (by decide)).trans hf62))))))) (((pk_un (by decide)).trans ((pk_un (by decide)).trans ((pk_un (by decide)).trans ((pk_un (by decide)).trans ((pk_un (by decide)).trans ((pk_un (by decide)).trans hf63))))))) (((pk_un (by decide)).trans ((pk_un (by decide)).trans ((pk_un (by decide)).trans ((pk_un (by decide)).trans ((pk_un (by decide)).trans ((pk_un (by decide)).trans hf64))))))) (((pk_un (by decide)).trans ((pk_un (by decide)).trans ((pk_un (by decide)).trans ((pk_un (by decide)).trans ((pk_un (by decide)).trans ((pk_un (by decide)).trans hf65))))))) (hf66) (hf67) (hf68) (hf69) (hf70) (hf71) (hf72) (hf73) (pk_us) (((pk_un (by decide)).trans ((pk_un (by decide)).trans ((pk_un (by decide)).trans pk_us)))) (((pk_un (by decide)).trans ((pk_un (by decide)).trans ((pk_un (by decide)).trans ((pk_un (by decide)).trans pk_us))))) H.size) (kV_X10_isTooGreat hE (e1448 hE) rfl rfl ⟨(Nat.le_of_ble_eq_true rfl), (Nat.le_of_ble_eq_true rfl)⟩) [1, 2, 4, 5] rfl (by decide) rfl hl.1 rfl (lv_room (Nat.le_of_ble_eq_true rfl)) dX10_addClip_175 ⟨(Nat.le_of_ble_eq_true rfl), (Nat.le_of_ble_eq_true rfl)⟩) hP hD hS hA [1, 2, 4, 5] [0, 3] rfl rfl (by decide) (by decide) (fun u7 H locs hP hD hS => ?_)
  have hP : va_P g.1 vwCl [(q74, .inl (g.2 0, 3976, .inl f55)), (q54, .inl (g.2 0, 497, .inl (cpF 497 f52 f55))), (q57, .inl (g.2 0, 8, .inl f55)), (q56, .inl (g.2 0, 8, .inl f55)), (q51, .inl (g.2 0, 497, .inl (upd (upd (upd (upd (upd (upd f52 393 x2) 394 3) 395 x3) 396 x4) 397 x5) 392 1))), (q1, .inr (12, [.ref q51, w7, .ref q54, w9, .ref q74, .int 0, .int 0, .ref q56, .ref q57, w15, w16, w17, w18, w19, w20, w21, w22, w23, w24, w25, w26, w27, w28, w29, w30, w31, w32, w33, w34, w35, w36, w37, w38, w39, w40, w41, w42]))] H := hP
  have hD : va_D A [(q74, .inl (g.2 0, 3976, .inl f55)), (q54, .inl (g.2 0, 497, .inl (cpF 497 f52 f55))), (q57, .inl (g.2 0, 8, .inl f55)), (q56, .inl (g.2 0, 8, .inl f55)), (q51, .inl (g.2 0, 497, .inl (upd (upd (upd (upd (upd (upd f52 393 x2) 394 3) 395 x3) 396 x4) 397 x5) 392 1))), (q1, .inr (12, [.ref q51, w7, .ref q54, w9, .ref q74, .int 0, .int 0, .ref q56, .ref q57, w15, w16, w17, w18, w19, w20, w21, w22, w23, w24, w25, w26, w27, w28, w29, w30, w31, w32, w33, w34, w35, w36, w37, w38, w39, w40, w41, w42]))] := hD
  refine lv_if_eq (tgt := 191) hx hb dX10_addClip_178 (by decide) (fun _ => ?_) (fun h => absurd (by decide) h)
  refine lv_aload_n hx hb dX10_addClip_191 rfl (lv_at hl 2 rfl) ?_
  refine g_v (wr := [(q57, .inl (g.2 0, 8, .inl f55)), (q56, .inl (g.2 0, 8, .inl f55)), (q51, .inl (g.2 0, 497, .inl (upd (upd (upd (upd (upd (upd f52 393 x2) 394 3) 395 x3) 396 x4) 397 x5) 392 1)))]) (rV (rest := []) hx hb hml hown hE hP hD 5 rfl rfl (c220_X10_keep l g q1 q74 q54 (.ref q51) w7 w9 (.int 0) (.ref q56) (.ref q57) w15 w16 w17 w18 w19 w20 w21 w22 w23 w24 w25 w26 w27 w28 w29 w30 w31 w32 w33 w34 w35 w36 w37 w38 w39 w40 w41 w42 (cpF 497 f52 f55) f55 H.size) (kV_X10_keep hE (e1478 hE) rfl rfl ⟨(Nat.le_of_ble_eq_true rfl), (Nat.le_of_ble_eq_true rfl)⟩) [0, 1, 5] rfl (by decide) rfl hl.1 rfl (lv_room (Nat.le_of_ble_eq_true rfl)) dX10_addClip_192 ⟨(Nat.le_of_ble_eq_true rfl), (Nat.le_of_ble_eq_true rfl)⟩) hP hD hS hA [0, 1, 5] [2, 3, 4] rfl rfl (by decide) (by decide) (fun u8 H locs hP hD hS => ?_)
  have hP : va_P g.1 vwCl [(q57, .inl (g.2 0, 8, .inl f55)), (q56, .inl (g.2 0, 8, .inl f55)), (q51, .inl (g.2 0, 497, .inl (upd (upd (upd (upd (upd (upd f52 393 x2) 394 3) 395 x3) 396 x4) 397 x5) 392 1))), (q74, .inl (g.2 0, 3976, .inl (cpF 497 (cpF 497 f52 f55) f55))), (q54, .inl (g.2 0, 497, .inl (cpF 497 f52 f55))), (q1, .inr (12, [.ref q51, w7, .ref q54, w9, .ref q74, .int 1, .int 0, .ref q56, .ref q57, w15, w16, w17, w18, w19, w20, w21, w22, w23, w24, w25, w26, w27, w28, w29, w30, w31, w32, w33, w34, w35, w36, w37, w38, w39, w40, w41, w42]))] H := hP
  have hD : va_D A [(q57, .inl (g.2 0, 8, .inl f55)), (q56, .inl (g.2 0, 8, .inl f55)), (q51, .inl (g.2 0, 497, .inl (upd (upd (upd (upd (upd (upd f52 393 x2) 394 3) 395 x3) 396 x4) 397 x5) 392 1))), (q74, .inl (g.2 0, 3976, .inl (cpF 497 (cpF 497 f52 f55) f55))), (q54, .inl (g.2 0, 497, .inl (cpF 497 f52 f55))), (q1, .inr (12, [.ref q51, w7, .ref q54, w9, .ref q74, .int 1, .int 0, .ref q56, .ref q57, w15, w16, w17, w18, w19, w20, w21, w22, w23, w24, w25, w26, w27, w28, w29, w30, w31, w32, w33, w34, w35, w36, w37, w38, w39, w40, w41, w42]))] := hD
  refine lv_aload_n hx hb dX10_addClip_195 rfl (lv_at hl 2 rfl) ?_
  refine gf_RX10_9 hx hb hown hE hP 5 rfl rfl dX10_addClip_196 ?_
  refine lv_sipush (v := 392) hx hb dX10_addClip_199 (by decide) ?_
  refine x_iald (v := 1) hx hb hE hP 2 rfl 392 (x_in (by decide)) (by decide) pk_us dX10_addClip_202 ?_
  refine lv_iconst (v := 1) hx hb dX10_addClip_203 (by decide) ?_
  refine x_isub (v := 0) hx hb dX10_addClip_204 (by decide) ?_
  exact x_zret hx hb hr rfl rfl hlocks hP hD hS hAe hsz (Nat.le_of_ble_eq_true rfl) (Nat.le_of_ble_eq_true rfl) (fun _ => 0) [5] (by decide) rfl dX10_addClip_205

set_option maxHeartbeats 4000000 in
set_option maxRecDepth 100000 in
theorem c1543_X6_clipLength (l : Launch) (g : gG) (q1 q9 q13 q17 : Nat) (x12 : Int32) (w3 w5 w6 w7 w8 w15 : Value) (f10 : Nat → Int32) (f18 : Nat → Int32) (hf11 : f10 2 = x12) (hf14 : f10 1 = 4) (hf19 : f18 21 = 0) (sz : Nat) : Met l yX6_clipLength [Cond.code yX6_clipLength cX6_clipLength 2 (some .int)] ({ frames := 1, cells := 0, slots := 0, locals := 23 } : Room) (va_Pc [.ref q1, .int 0] (PX g sz [(q17, .inl (g.2 0, 40, .inl f18)), (q13, .inr (5, [w15, .ref q17])), (q9, .inl (g.2 0, 60, .inl f10)), (q1, .inr (8, [.ref q13, w3, .ref q9, w5, w6, w7, w8]))])) (QI g [(q17, .inl (g.2 0, 40, .inl f18)), (q13, .inr (5, [w15, .ref q17])), (q9, .inl (g.2 0, 60, .inl f10)), (q1, .inr (8, [.ref q13, w3, .ref q9, w5, w6, w7, w8]))] sz 0 (fun _ => [(q9, .inl (g.2 0, 60, .inl f10)), (q1, .inr (8, [.ref q13, w3, .ref q9, w5, w6, w7, w8])), (q17, .inl (g.2 0, 40, .inl f18)), (q13, .inr (5, [w15, .ref q17]))])) 0 0 (va_A [(q17, .inl (g.2 0, 40, .inl f18)), (q13, .inr (5, [w15, .ref q17])), (q9, .inl (g.2 0, 60, .inl f10)), (q1, .inr (8, [.ref q13, w3, .ref q9, w5, w6, w7, w8]))] sz) := by
  refine ofN (by decide) (Nat.le_of_ble_eq_true rfl) rfl ?_
  intro p e s m args below meth c A ls hAe hsz hx hb hml hr hlocks hin hown hE hP hD hA hS hl
  have hown : s.vm.findClass RX6 = some m.cls := hown
  refine lv_aload_n hx hb dX6_clipLength_0 rfl (lv_at hl 0 rfl) ?_
  refine lv_iload_n hx hb dX6_clipLength_1 rfl (lv_at hl 1 rfl) ?_
  refine lv_iconst (v := 2) hx hb dX6_clipLength_2 (by decide) ?_
  refine g_i (wr := [(q17, .inl (g.2 0, 40, .inl f18)), (q13, .inr (5, [w15, .ref q17]))]) (rV (rest := []) hx hb hml hown hE hP hD 3 rfl rfl (c1503_X6_clipNumber l g q1 q9 x12 (.ref q13) w3 w5 w6 w7 w8 f10 (hf11) s.heap.size) (kV_X6_clipNumber hE (e711 hE) rfl rfl ⟨(Nat.le_of_ble_eq_true rfl), (Nat.le_of_ble_eq_true rfl)⟩) [2, 3] rfl (by decide) rfl hl.1 rfl (lv_room (Nat.le_of_ble_eq_true rfl)) dX6_clipLength_3 ⟨(Nat.le_of_ble_eq_true rfl), (Nat.le_of_ble_eq_true rfl)⟩) hP hD hS hA [2, 3] [0, 1] rfl rfl (by decide) (by decide) (fun u1 H locs hP hD hS => ?_)
  have hP : va_P g.1 vwCl [(q17, .inl (g.2 0, 40, .inl f18)), (q13, .inr (5, [w15, .ref q17])), (q9, .inl (g.2 0, 60, .inl f10)), (q1, .inr (8, [.ref q13, w3, .ref q9, w5, w6, w7, w8]))] H := hP
  have hD : va_D A [(q17, .inl (g.2 0, 40, .inl f18)), (q13, .inr (5, [w15, .ref q17])), (q9, .inl (g.2 0, 60, .inl f10)), (q1, .inr (8, [.ref q13, w3, .ref q9, w5, w6, w7, w8]))] := hD
  refine lv_aload_n hx hb dX6_clipLength_6 rfl (lv_at hl 0 rfl) ?_
  refine gf_RX6_12 hx hb hown hE hP 3 rfl rfl dX6_clipLength_7 ?_
  refine lv_aload_n hx hb dX6_clipLength_10 rfl (lv_at hl 0 rfl) ?_
  refine lv_iload_n hx hb dX6_clipLength_11 rfl (lv_at hl 1 rfl) ?_
  refine lv_iconst (v := 1) hx hb dX6_clipLength_12 (by decide) ?_
  refine g_i (wr := [(q17, .inl (g.2 0, 40, .inl f18)), (q13, .inr (5, [w15, .ref q17]))]) (rV (rest := [.ref q13, .int x12]) hx hb hml hown hE hP hD 3 rfl rfl (c1504_X6_clipNumber l g q1 q9 4 (.ref q13) w3 w5 w6 w7 w8 f10 (hf14) H.size) (kV_X6_clipNumber hE (e711 hE) rfl rfl ⟨(Nat.le_of_ble_eq_true rfl), (Nat.le_of_ble_eq_true rfl)⟩) [2, 3] rfl (by decide) rfl hl.1 rfl (lv_room (Nat.le_of_ble_eq_true rfl)) dX6_clipLength_13 ⟨(Nat.le_of_ble_eq_true rfl), (Nat.le_of_ble_eq_true rfl)⟩) hP hD hS hA [2, 3] [0, 1] rfl rfl (by decide) (by decide) (fun u2 H locs hP hD hS => ?_)
  have hP : va_P g.1 vwCl [(q17, .inl (g.2 0, 40, .inl f18)), (q13, .inr (5, [w15, .ref q17])), (q9, .inl (g.2 0, 60, .inl f10)), (q1, .inr (8, [.ref q13, w3, .ref q9, w5, w6, w7, w8]))] H := hP
  have hD : va_D A [(q17, .inl (g.2 0, 40, .inl f18)), (q13, .inr (5, [w15, .ref q17])), (q9, .inl (g.2 0, 60, .inl f10)), (q1, .inr (8, [.ref q13, w3, .ref q9, w5, w6, w7, w8]))] := hD
  refine lv_iconst (v := 1) hx hb dX6_clipLength_16 (by decide) ?_
  refine g_i (wr := [(q9, .inl (g.2 0, 60, .inl f10)), (q1, .inr (8, [.ref q13, w3, .ref q9, w5, w6, w7, w8]))]) (rV (rest := [.int x12]) hx hb hml hown hE hP hD 1 rfl rfl (c169_X3_figure l g q13 q17 w15 f18 (hf19) H.size) (kV_X3_figure hE (e712 hE) rfl rfl ⟨(Nat.le_of_ble_eq_true rfl), (Nat.le_of_ble_eq_true rfl)⟩) [0, 1] rfl (by decide) rfl hl.1 rfl (lv_room (Nat.le_of_ble_eq_true rfl)) dX6_clipLength_17 ⟨(Nat.le_of_ble_eq_true rfl), (Nat.le_of_ble_eq_true rfl)⟩) hP hD hS hA [0, 1] [2, 3] rfl rfl (by decide) (by decide) (fun u3 H locs hP hD hS => ?_)
  have hP : va_P g.1 vwCl [(q9, .inl (g.2 0, 60, .inl f10)), (q1, .inr (8, [.ref q13, w3, .ref q9, w5, w6, w7, w8])), (q17, .inl (g.2 0, 40, .inl f18)), (q13, .inr (5, [w15, .ref q17]))] H := hP
  have hD : va_D A [(q9, .inl (g.2 0, 60, .inl f10)), (q1, .inr (8, [.ref q13, w3, .ref q9, w5, w6, w7, w8])), (q17, .inl (g.2 0, 40, .inl f18)), (q13, .inr (5, [w15, .ref q17]))] := hD
  refine x_imul (v := 0) hx hb dX6_clipLength_20 (Int32.mul_zero) ?_
  exact x_zret hx hb hr rfl rfl hlocks hP hD hS hAe hsz (Nat.le_of_ble_eq_true rfl) (Nat.le_of_ble_eq_true rfl) (fun _ => 0) [0, 1, 2, 3] (by decide) rfl dX6_clipLength_21

set_option maxHeartbeats 4000000 in
set_option maxRecDepth 100000 in
theorem c1544_X6_clipNotes (l : Launch) (g : gG) (q1 q9 q13 q17 : Nat) (x12 : Int32) (w3 w5 w6 w7 w8 w15 : Value) (f10 : Nat → Int32) (f18 : Nat → Int32) (hf11 : f10 2 = x12) (hf14 : f10 1 = 4) (hf19 : f18 22 = 0) (sz : Nat) : Met l yX6_clipNotes [Cond.code yX6_clipNotes cX6_clipNotes 2 (some .int)] ({ frames := 1, cells := 0, slots := 0, locals := 23 } : Room) (va_Pc [.ref q1, .int 0] (PX g sz [(q17, .inl (g.2 0, 40, .inl f18)), (q13, .inr (5, [w15, .ref q17])), (q9, .inl (g.2 0, 60, .inl f10)), (q1, .inr (8, [.ref q13, w3, .ref q9, w5, w6, w7, w8]))])) (QI g [(q17, .inl (g.2 0, 40, .inl f18)), (q13, .inr (5, [w15, .ref q17])), (q9, .inl (g.2 0, 60, .inl f10)), (q1, .inr (8, [.ref q13, w3, .ref q9, w5, w6, w7, w8]))] sz 0 (fun _ => [(q9, .inl (g.2 0, 60, .inl f10)), (q1, .inr (8, [.ref q13, w3, .ref q9, w5, w6, w7, w8])), (q17, .inl (g.2 0, 40, .inl f18)), (q13, .inr (5, [w15, .ref q17]))])) 0 0 (va_A [(q17, .inl (g.2 0, 40, .inl f18)), (q13, .inr (5, [w15, .ref q17])), (q9, .inl (g.2 0, 60, .inl f10)), (q1, .inr (8, [.ref q13, w3, .ref q9, w5, w6, w7, w8]))] sz) := by
  refine ofN (by decide) (Nat.le_of_ble_eq_true rfl) rfl ?_
  intro p e s m args below meth c A ls hAe hsz hx hb hml hr hlocks hin hown hE hP hD hA hS hl
  have hown : s.vm.findClass RX6 = some m.cls := hown
  refine lv_aload_n hx hb dX6_clipNotes_0 rfl (lv_at hl 0 rfl) ?_
  refine lv_iload_n hx hb dX6_clipNotes_1 rfl (lv_at hl 1 rfl) ?_
  refine lv_iconst (v := 2) hx hb dX6_clipNotes_2 (by decide) ?_
  refine g_i (wr := [(q17, .inl (g.2 0, 40, .inl f18)), (q13, .inr (5, [w15, .ref q17]))]) (rV (rest := []) hx hb hml hown hE hP hD 3 rfl rfl (c1503_X6_clipNumber l g q1 q9 x12 (.ref q13) w3 w5 w6 w7 w8 f10 (hf11) s.heap.size) (kV_X6_clipNumber hE (e711 hE) rfl rfl ⟨(Nat.le_of_ble_eq_true rfl), (Nat.le_of_ble_eq_true rfl)⟩) [2, 3] rfl (by decide) rfl hl.1 rfl (lv_room (Nat.le_of_ble_eq_true rfl)) dX6_clipNotes_3 ⟨(Nat.le_of_ble_eq_true rfl), (Nat.le_of_ble_eq_true rfl)⟩) hP hD hS hA [2, 3] [0, 1] rfl rfl (by decide) (by decide) (fun u1 H locs hP hD hS => ?_)
  have hP : va_P g.1 vwCl [(q17, .inl (g.2 0, 40, .inl f18)), (q13, .inr (5, [w15, .ref q17])), (q9, .inl (g.2 0, 60, .inl f10)), (q1, .inr (8, [.ref q13, w3, .ref q9, w5, w6, w7, w8]))] H := hP
  have hD : va_D A [(q17, .inl (g.2 0, 40, .inl f18)), (q13, .inr (5, [w15, .ref q17])), (q9, .inl (g.2 0, 60, .inl f10)), (q1, .inr (8, [.ref q13, w3, .ref q9, w5, w6, w7, w8]))] := hD
  refine lv_aload_n hx hb dX6_clipNotes_6 rfl (lv_at hl 0 rfl) ?_
  refine gf_RX6_12 hx hb hown hE hP 3 rfl rfl dX6_clipNotes_7 ?_
  refine lv_aload_n hx hb dX6_clipNotes_10 rfl (lv_at hl 0 rfl) ?_
  refine lv_iload_n hx hb dX6_clipNotes_11 rfl (lv_at hl 1 rfl) ?_
  refine lv_iconst (v := 1) hx hb dX6_clipNotes_12 (by decide) ?_
  refine g_i (wr := [(q17, .inl (g.2 0, 40, .inl f18)), (q13, .inr (5, [w15, .ref q17]))]) (rV (rest := [.ref q13, .int x12]) hx hb hml hown hE hP hD 3 rfl rfl (c1504_X6_clipNumber l g q1 q9 4 (.ref q13) w3 w5 w6 w7 w8 f10 (hf14) H.size) (kV_X6_clipNumber hE (e711 hE) rfl rfl ⟨(Nat.le_of_ble_eq_true rfl), (Nat.le_of_ble_eq_true rfl)⟩) [2, 3] rfl (by decide) rfl hl.1 rfl (lv_room (Nat.le_of_ble_eq_true rfl)) dX6_clipNotes_13 ⟨(Nat.le_of_ble_eq_true rfl), (Nat.le_of_ble_eq_true rfl)⟩) hP hD hS hA [2, 3] [0, 1] rfl rfl (by decide) (by decide) (fun u2 H locs hP hD hS => ?_)
  have hP : va_P g.1 vwCl [(q17, .inl (g.2 0, 40, .inl f18)), (q13, .inr (5, [w15, .ref q17])), (q9, .inl (g.2 0, 60, .inl f10)), (q1, .inr (8, [.ref q13, w3, .ref q9, w5, w6, w7, w8]))] H := hP
  have hD : va_D A [(q17, .inl (g.2 0, 40, .inl f18)), (q13, .inr (5, [w15, .ref q17])), (q9, .inl (g.2 0, 60, .inl f10)), (q1, .inr (8, [.ref q13, w3, .ref q9, w5, w6, w7, w8]))] := hD
  refine lv_iconst (v := 2) hx hb dX6_clipNotes_16 (by decide) ?_
  refine g_i (wr := [(q9, .inl (g.2 0, 60, .inl f10)), (q1, .inr (8, [.ref q13, w3, .ref q9, w5, w6, w7, w8]))]) (rV (rest := [.int x12]) hx hb hml hown hE hP hD 1 rfl rfl (c945_X3_figure l g q13 q17 w15 f18 (hf19) H.size) (kV_X3_figure hE (e712 hE) rfl rfl ⟨(Nat.le_of_ble_eq_true rfl), (Nat.le_of_ble_eq_true rfl)⟩) [0, 1] rfl (by decide) rfl hl.1 rfl (lv_room (Nat.le_of_ble_eq_true rfl)) dX6_clipNotes_17 ⟨(Nat.le_of_ble_eq_true rfl), (Nat.le_of_ble_eq_true rfl)⟩) hP hD hS hA [0, 1] [2, 3] rfl rfl (by decide) (by decide) (fun u3 H locs hP hD hS => ?_)
  have hP : va_P g.1 vwCl [(q9, .inl (g.2 0, 60, .inl f10)), (q1, .inr (8, [.ref q13, w3, .ref q9, w5, w6, w7, w8])), (q17, .inl (g.2 0, 40, .inl f18)), (q13, .inr (5, [w15, .ref q17]))] H := hP
  have hD : va_D A [(q9, .inl (g.2 0, 60, .inl f10)), (q1, .inr (8, [.ref q13, w3, .ref q9, w5, w6, w7, w8])), (q17, .inl (g.2 0, 40, .inl f18)), (q13, .inr (5, [w15, .ref q17]))] := hD
  refine x_imul (v := 0) hx hb dX6_clipNotes_20 (Int32.mul_zero) ?_
  exact x_zret hx hb hr rfl rfl hlocks hP hD hS hAe hsz (Nat.le_of_ble_eq_true rfl) (Nat.le_of_ble_eq_true rfl) (fun _ => 0) [0, 1, 2, 3] (by decide) rfl dX6_clipNotes_21

set_option maxHeartbeats 4000000 in
set_option maxRecDepth 100000 in
theorem c1545_X6_hasFittingClips (l : Launch) (g : gG) (q1 q9 q10 q17 : Nat) (x13 : Int32) (w3 w5 w7 w8 w15 : Value) (f11 : Nat → Int32) (f18 : Nat → Int32) (hf12 : f11 2 = x13) (hf14 : f11 1 = 4) (hf19 : f18 21 = 0) (hf20 : f18 22 = 0) (sz : Nat) : Met l yX6_hasFittingClips [Cond.code yX6_hasFittingClips cX6_hasFittingClips 3 (some .boolean)] ({ frames := 2, cells := 0, slots := 0, locals := 44 } : Room) (va_Pc [.ref q1] (PX g sz [(q17, .inl (g.2 0, 40, .inl f18)), (q9, .inr (5, [w15, .ref q17])), (q10, .inl (g.2 0, 60, .inl f11)), (q1, .inr (8, [.ref q9, w3, .ref q10, w5, .int 1, w7, w8]))])) (QI g [(q17, .inl (g.2 0, 40, .inl f18)), (q9, .inr (5, [w15, .ref q17])), (q10, .inl (g.2 0, 60, .inl f11)), (q1, .inr (8, [.ref q9, w3, .ref q10, w5, .int 1, w7, w8]))] sz 1 (fun _ => [(q10, .inl (g.2 0, 60, .inl f11)), (q1, .inr (8, [.ref q9, w3, .ref q10, w5, .int 1, w7, w8])), (q17, .inl (g.2 0, 40, .inl f18)), (q9, .inr (5, [w15, .ref q17]))])) 0 0 (va_A [(q17, .inl (g.2 0, 40, .inl f18)), (q9, .inr (5, [w15, .ref q17])), (q10, .inl (g.2 0, 60, .inl f11)), (q1, .inr (8, [.ref q9, w3, .ref q10, w5, .int 1, w7, w8]))] sz) := by
  refine ofN (by decide) (Nat.le_of_ble_eq_true rfl) rfl ?_
  intro p e s m args below meth c A ls hAe hsz hx hb hml hr hlocks hin hown hE hP hD hA hS hl
  have hown : s.vm.findClass RX6 = some m.cls := hown
  refine lv_iconst (v := 0) hx hb dX6_hasFittingClips_0 (by decide) ?_
  refine lv_istore_n (lv' := [(1, .int 0), (0, .ref q1)]) hx hb dX6_hasFittingClips_1 rfl hl (by decide) rfl (fun ls hl => ?_)
  refine lv_iconst (v := 0) hx hb dX6_hasFittingClips_2 (by decide) ?_
  refine lv_istore_n (lv' := [(2, .int 0), (1, .int 0), (0, .ref q1)]) hx hb dX6_hasFittingClips_3 rfl hl (by decide) rfl (fun ls hl => ?_)
  refine lv_iload_n hx hb dX6_hasFittingClips_4 rfl (lv_at hl 0 rfl) ?_
  refine lv_aload_n hx hb dX6_hasFittingClips_5 rfl (lv_at hl 2 rfl) ?_
  refine gf_RX6_37 hx hb hown hE hP 3 rfl rfl dX6_hasFittingClips_6 ?_
  refine lv_icmp_ge (tgt := 39) hx hb dX6_hasFittingClips_9 (by decide) (fun h => absurd h (by decide)) (fun _ => ?_)
  refine lv_aload_n hx hb dX6_hasFittingClips_12 rfl (lv_at hl 2 rfl) ?_
  refine lv_iload_n hx hb dX6_hasFittingClips_13 rfl (lv_at hl 0 rfl) ?_
  refine g_i (wr := []) (rV (rest := []) hx hb hml hown hE hP hD 3 rfl rfl (c1543_X6_clipLength l g q1 q10 q9 q17 x13 w3 w5 (.int 1) w7 w8 w15 f11 f18 (hf12) (hf14) (hf19) s.heap.size) (kV_X6_clipLength hE (e707 hE) rfl rfl ⟨(Nat.le_of_ble_eq_true rfl), (Nat.le_of_ble_eq_true rfl)⟩) [0, 1, 2, 3] rfl (by decide) rfl hl.1 rfl (lv_room (Nat.le_of_ble_eq_true rfl)) dX6_hasFittingClips_14 ⟨(Nat.le_of_ble_eq_true rfl), (Nat.le_of_ble_eq_true rfl)⟩) hP hD hS hA [0, 1, 2, 3] [] rfl rfl (by decide) (by decide) (fun u1 H locs hP hD hS => ?_)
  have hP : va_P g.1 vwCl [(q10, .inl (g.2 0, 60, .inl f11)), (q1, .inr (8, [.ref q9, w3, .ref q10, w5, .int 1, w7, w8])), (q17, .inl (g.2 0, 40, .inl f18)), (q9, .inr (5, [w15, .ref q17]))] H := hP
  have hD : va_D A [(q10, .inl (g.2 0, 60, .inl f11)), (q1, .inr (8, [.ref q9, w3, .ref q10, w5, .int 1, w7, w8])), (q17, .inl (g.2 0, 40, .inl f18)), (q9, .inr (5, [w15, .ref q17]))] := hD
  refine lv_sipush (v := 20000) hx hb dX6_hasFittingClips_17 (by decide) ?_
  refine lv_icmp_le (tgt := 25) hx hb dX6_hasFittingClips_20 (by decide) (fun _ => ?_) (fun h => absurd (by decide) h)
  refine lv_iload_n hx hb dX6_hasFittingClips_25 rfl (lv_at hl 1 rfl) ?_
  refine lv_aload_n hx hb dX6_hasFittingClips_26 rfl (lv_at hl 2 rfl) ?_
  refine lv_iload_n hx hb dX6_hasFittingClips_27 rfl (lv_at hl 0 rfl) ?_
  refine g_i (wr := []) (rV (rest := [.int 0]) hx hb hml hown hE hP hD 1 rfl rfl (c1544_X6_clipNotes l g q1 q10 q9 q17 x13 w3 w5 (.int 1) w7 w8 w15 f11 f18 (hf12) (hf14) (hf20) H.size) (kV_X6_clipNotes hE (e713 hE) rfl rfl ⟨(Nat.le_of_ble_eq_true rfl), (Nat.le_of_ble_eq_true rfl)⟩) [2, 3, 0, 1] rfl (by decide) rfl hl.1 rfl (lv_room (Nat.le_of_ble_eq_true rfl)) dX6_hasFittingClips_28 ⟨(Nat.le_of_ble_eq_true rfl), (Nat.le_of_ble_eq_true rfl)⟩) hP hD hS hA [2, 3, 0, 1] [] rfl rfl (by decide) (by decide) (fun u2 H locs hP hD hS => ?_)
  have hP : va_P g.1 vwCl [(q10, .inl (g.2 0, 60, .inl f11)), (q1, .inr (8, [.ref q9, w3, .ref q10, w5, .int 1, w7, w8])), (q17, .inl (g.2 0, 40, .inl f18)), (q9, .inr (5, [w15, .ref q17]))] H := hP
  have hD : va_D A [(q10, .inl (g.2 0, 60, .inl f11)), (q1, .inr (8, [.ref q9, w3, .ref q10, w5, .int 1, w7, w8])), (q17, .inl (g.2 0, 40, .inl f18)), (q9, .inr (5, [w15, .ref q17]))] := hD
  refine x_iadd (v := 0) hx hb dX6_hasFittingClips_31 (by decide) ?_
  refine lv_istore_n (lv' := [(1, .int 0), (2, .int 0), (0, .ref q1)]) hx hb dX6_hasFittingClips_32 rfl hl (by decide) rfl (fun ls hl => ?_)
  refine lv_iinc (v := 1) (lv' := [(2, .int 1), (1, .int 0), (0, .ref q1)]) hx hb dX6_hasFittingClips_33 hl (k := 1) rfl (by decide) (by decide) rfl (fun ls hl => ?_)
  refine lv_goto (tgt := 4) hx hb dX6_hasFittingClips_36 (by decide) ?_
  refine lv_iload_n hx hb dX6_hasFittingClips_4 rfl (lv_at hl 0 rfl) ?_
  refine lv_aload_n hx hb dX6_hasFittingClips_5 rfl (lv_at hl 2 rfl) ?_
  refine gf_RX6_37 hx hb hown hE hP 1 rfl rfl dX6_hasFittingClips_6 ?_
  refine lv_icmp_ge (tgt := 39) hx hb dX6_hasFittingClips_9 (by decide) (fun _ => ?_) (fun h => absurd (by decide) h)
  refine lv_iload_n hx hb dX6_hasFittingClips_39 rfl (lv_at hl 1 rfl) ?_
  refine lv_sipush (v := 300) hx hb dX6_hasFittingClips_40 (by decide) ?_
  refine lv_icmp_gt (tgt := 50) hx hb dX6_hasFittingClips_43 (by decide) (fun h => absurd h (by decide)) (fun _ => ?_)
  refine lv_iconst (v := 1) hx hb dX6_hasFittingClips_46 (by decide) ?_
  refine lv_goto (tgt := 51) hx hb dX6_hasFittingClips_47 (by decide) ?_
  exact x_zret hx hb hr rfl rfl hlocks hP hD hS hAe hsz (Nat.le_of_ble_eq_true rfl) (Nat.le_of_ble_eq_true rfl) (fun _ => 0) [0, 1, 2, 3] (by decide) rfl dX6_hasFittingClips_51

set_option maxHeartbeats 4000000 in
set_option maxRecDepth 100000 in
theorem c1546_X9_acceptIfFitting (l : Launch) (g : gG) (q1 q2 q10 q13 q14 q47 q63 : Nat) (x50 : Int32) (w4 w6 w8 w9 w53 w54 w55 w56 w57 w58 w59 w60 w61 w62 w64 : Value) (f15 : Nat → Int32) (f48 : Nat → Int32) (hf16 : f15 0 = 0) (hf17 : f15 2 = 0) (hf18 : f15 3 = 0) (hf19 : f15 5 = 0) (hf20 : f15 6 = 0) (hf21 : f15 7 = 0) (hf22 : f15 8 = 0) (hf23 : f15 10 = 0) (hf24 : f15 11 = 0) (hf25 : f15 12 = 0) (hf26 : f15 13 = 0) (hf27 : f15 15 = 0) (hf28 : f15 16 = 0) (hf29 : f15 17 = 0) (hf30 : f15 18 = 0) (hf31 : f15 20 = 0) (hf32 : f15 21 = 0) (hf33 : f15 22 = 0) (hf34 : f15 23 = 0) (hf35 : f15 25 = 0) (hf36 : f15 26 = 0) (hf37 : f15 27 = 0) (hf38 : f15 28 = 0) (hf39 : f15 30 = 0) (hf40 : f15 31 = 0) (hf41 : f15 32 = 0) (hf42 : f15 33 = 0) (hf43 : f15 35 = 0) (hf44 : f15 36 = 0) (hf45 : f15 37 = 0) (hf46 : f15 38 = 0) (hf49 : f48 2 = x50) (hf51 : f48 1 = 4) (sz : Nat) : Met l yX9_acceptIfFitting [Cond.code yX9_acceptIfFitting cX9_acceptIfFitting 2 none] ({ frames := 3, cells := 0, slots := 0, locals := 73 } : Room) (va_Pc [.ref q1, .ref q2] (PX g sz [(q63, .inr (10, [w64, .int 0, .int 0])), (q1, .inr (11, [.ref q63, w53, w54, w55, w56, w57, w58, w59, w60, w61, w62])), (q47, .inl (g.2 0, 60, .inl f48)), (q14, .inl (g.2 0, 40, .inl f15)), (q10, .inr (5, [.ref q13, .ref q14])), (q2, .inr (8, [.ref q10, w4, .ref q47, w6, .int 1, w8, w9]))])) (QV g [(q63, .inr (10, [w64, .int 0, .int 0])), (q1, .inr (11, [.ref q63, w53, w54, w55, w56, w57, w58, w59, w60, w61, w62])), (q47, .inl (g.2 0, 60, .inl f48)), (q14, .inl (g.2 0, 40, .inl f15)), (q10, .inr (5, [.ref q13, .ref q14])), (q2, .inr (8, [.ref q10, w4, .ref q47, w6, .int 1, w8, w9]))] sz (fun _ => [(q47, .inl (g.2 0, 60, .inl f48)), (q2, .inr (8, [.ref q10, w4, .ref q47, w6, .int 1, w8, w9])), (q14, .inl (g.2 0, 40, .inl (upd (upd (upd (upd (upd (upd (upd (upd (upd f15 1 0) 4 1) 9 1) 14 1) 19 1) 24 1) 29 1) 34 1) 39 1))), (q10, .inr (5, [.ref q13, .ref q14])), (q63, .inr (10, [w64, .int 1, .int 1])), (q1, .inr (11, [.ref q63, w53, w54, w55, w56, w57, w58, w59, .int 0, .int 0, w62]))])) 0 0 (va_A [(q63, .inr (10, [w64, .int 0, .int 0])), (q1, .inr (11, [.ref q63, w53, w54, w55, w56, w57, w58, w59, w60, w61, w62])), (q47, .inl (g.2 0, 60, .inl f48)), (q14, .inl (g.2 0, 40, .inl f15)), (q10, .inr (5, [.ref q13, .ref q14])), (q2, .inr (8, [.ref q10, w4, .ref q47, w6, .int 1, w8, w9]))] sz) := by
  refine ofN (by decide) (Nat.le_of_ble_eq_true rfl) rfl ?_
  intro p e s m args below meth c A ls hAe hsz hx hb hml hr hlocks hin hown hE hP hD hA hS hl
  have hown : s.vm.findClass RX9 = some m.cls := hown
  refine lv_aload_n hx hb dX9_acceptIfFitting_0 rfl (lv_at hl 1 rfl) ?_
  refine gf_RX9_108 hx hb hown hE hP 5 rfl rfl dX9_acceptIfFitting_1 ?_
  refine g_i (wr := [(q63, .inr (10, [w64, .int 0, .int 0])), (q1, .inr (11, [.ref q63, w53, w54, w55, w56, w57, w58, w59, w60, w61, w62])), (q47, .inl (g.2 0, 60, .inl f48)), (q2, .inr (8, [.ref q10, w4, .ref q47, w6, .int 1, w8, w9]))]) (rV (rest := []) hx hb hml hown hE hP hD 4 rfl rfl (c1502_X3_measure l g q10 q13 q14 f15 (hf16) (hf17) (hf18) (hf19) (hf20) (hf21) (hf22) (hf23) (hf24) (hf25) (hf26) (hf27) (hf28) (hf29) (hf30) (hf31) (hf32) (hf33) (hf34) (hf35) (hf36) (hf37) (hf38) (hf39) (hf40) (hf41) (hf42) (hf43) (hf44) (hf45) (hf46) s.heap.size) (kV_X3_measure hE (e694 hE) rfl rfl ⟨(Nat.le_of_ble_eq_true rfl), (Nat.le_of_ble_eq_true rfl)⟩) [3, 4] rfl (by decide) rfl hl.1 rfl (lv_room (Nat.le_of_ble_eq_true rfl)) dX9_acceptIfFitting_4 ⟨(Nat.le_of_ble_eq_true rfl), (Nat.le_of_ble_eq_true rfl)⟩) hP hD hS hA [3, 4] [0, 1, 2, 5] rfl rfl (by decide) (by decide) (fun u1 H locs hP hD hS => ?_)
  have hP : va_P g.1 vwCl [(q63, .inr (10, [w64, .int 0, .int 0])), (q1, .inr (11, [.ref q63, w53, w54, w55, w56, w57, w58, w59, w60, w61, w62])), (q47, .inl (g.2 0, 60, .inl f48)), (q2, .inr (8, [.ref q10, w4, .ref q47, w6, .int 1, w8, w9])), (q14, .inl (g.2 0, 40, .inl (upd (upd (upd (upd (upd (upd (upd (upd (upd f15 1 0) 4 1) 9 1) 14 1) 19 1) 24 1) 29 1) 34 1) 39 1))), (q10, .inr (5, [.ref q13, .ref q14]))] H := hP
  have hD : va_D A [(q63, .inr (10, [w64, .int 0, .int 0])), (q1, .inr (11, [.ref q63, w53, w54, w55, w56, w57, w58, w59, w60, w61, w62])), (q47, .inl (g.2 0, 60, .inl f48)), (q2, .inr (8, [.ref q10, w4, .ref q47, w6, .int 1, w8, w9])), (q14, .inl (g.2 0, 40, .inl (upd (upd (upd (upd (upd (upd (upd (upd (upd f15 1 0) 4 1) 9 1) 14 1) 19 1) 24 1) 29 1) 34 1) 39 1))), (q10, .inr (5, [.ref q13, .ref q14]))] := hD
  refine lv_if_eq (tgt := 17) hx hb dX9_acceptIfFitting_7 (by decide) (fun h => absurd h (by decide)) (fun _ => ?_)
  refine lv_aload_n hx hb dX9_acceptIfFitting_10 rfl (lv_at hl 1 rfl) ?_
  refine g_i (wr := [(q63, .inr (10, [w64, .int 0, .int 0])), (q1, .inr (11, [.ref q63, w53, w54, w55, w56, w57, w58, w59, w60, w61, w62]))]) (rV (rest := []) hx hb hml hown hE hP hD 3 rfl rfl (c1545_X6_hasFittingClips l g q2 q10 q47 q14 x50 w4 w6 w8 w9 (.ref q13) f48 (upd (upd (upd (upd (upd (upd (upd (upd (upd f15 1 0) 4 1) 9 1) 14 1) 19 1) 24 1) 29 1) 34 1) 39 1) (hf49) (hf51) (((pk_un (by decide)).trans ((pk_un (by decide)).trans ((pk_un (by decide)).trans ((pk_un (by decide)).trans ((pk_un (by decide)).trans ((pk_un (by decide)).trans ((pk_un (by decide)).trans ((pk_un (by decide)).trans ((pk_un (by decide)).trans hf32)))))))))) (((pk_un (by decide)).trans ((pk_un (by decide)).trans ((pk_un (by decide)).trans ((pk_un (by decide)).trans ((pk_un (by decide)).trans ((pk_un (by decide)).trans ((pk_un (by decide)).trans ((pk_un (by decide)).trans ((pk_un (by decide)).trans hf33)))))))))) H.size) (kV_X6_hasFittingClips hE (e703 hE) rfl rfl ⟨(Nat.le_of_ble_eq_true rfl), (Nat.le_of_ble_eq_true rfl)⟩) [4, 5, 2, 3] rfl (by decide) rfl hl.1 rfl (lv_room (Nat.le_of_ble_eq_true rfl)) dX9_acceptIfFitting_11 ⟨(Nat.le_of_ble_eq_true rfl), (Nat.le_of_ble_eq_true rfl)⟩) hP hD hS hA [4, 5, 2, 3] [0, 1] rfl rfl (by decide) (by decide) (fun u2 H locs hP hD hS => ?_)
  have hP : va_P g.1 vwCl [(q63, .inr (10, [w64, .int 0, .int 0])), (q1, .inr (11, [.ref q63, w53, w54, w55, w56, w57, w58, w59, w60, w61, w62])), (q47, .inl (g.2 0, 60, .inl f48)), (q2, .inr (8, [.ref q10, w4, .ref q47, w6, .int 1, w8, w9])), (q14, .inl (g.2 0, 40, .inl (upd (upd (upd (upd (upd (upd (upd (upd (upd f15 1 0) 4 1) 9 1) 14 1) 19 1) 24 1) 29 1) 34 1) 39 1))), (q10, .inr (5, [.ref q13, .ref q14]))] H := hP
  have hD : va_D A [(q63, .inr (10, [w64, .int 0, .int 0])), (q1, .inr (11, [.ref q63, w53, w54, w55, w56, w57, w58, w59, w60, w61, w62])), (q47, .inl (g.2 0, 60, .inl f48)), (q2, .inr (8, [.ref q10, w4, .ref q47, w6, .int 1, w8, w9])), (q14, .inl (g.2 0, 40, .inl (upd (upd (upd (upd (upd (upd (upd (upd (upd f15 1 0) 4 1) 9 1) 14 1) 19 1) 24 1) 29 1) 34 1) 39 1))), (q10, .inr (5, [.ref q13, .ref q14]))] := hD
  refine lv_if_ne (tgt := 28) hx hb dX9_acceptIfFitting_14 (by decide) (fun _ => ?_) (fun h => absurd h (by decide))
  refine lv_aload_n hx hb dX9_acceptIfFitting_28 rfl (lv_at hl 0 rfl) ?_
  refine g_v (wr := [(q47, .inl (g.2 0, 60, .inl f48)), (q2, .inr (8, [.ref q10, w4, .ref q47, w6, .int 1, w8, w9])), (q14, .inl (g.2 0, 40, .inl (upd (upd (upd (upd (upd (upd (upd (upd (upd f15 1 0) 4 1) 9 1) 14 1) 19 1) 24 1) 29 1) 34 1) 39 1))), (q10, .inr (5, [.ref q13, .ref q14]))]) (rV (rest := []) hx hb hml hown hE hP hD 1 rfl rfl (c191_X9_accept l g q1 q63 w53 w54 w55 w56 w57 w58 w59 w60 w61 w62 w64 H.size) (kV_X9_accept hE (e718 hE) rfl rfl ⟨(Nat.le_of_ble_eq_true rfl), (Nat.le_of_ble_eq_true rfl)⟩) [0, 1] rfl (by decide) rfl hl.1 rfl (lv_room (Nat.le_of_ble_eq_true rfl)) dX9_acceptIfFitting_29 ⟨(Nat.le_of_ble_eq_true rfl), (Nat.le_of_ble_eq_true rfl)⟩) hP hD hS hA [0, 1] [2, 3, 4, 5] rfl rfl (by decide) (by decide) (fun u3 H locs hP hD hS => ?_)
  have hP : va_P g.1 vwCl [(q47, .inl (g.2 0, 60, .inl f48)), (q2, .inr (8, [.ref q10, w4, .ref q47, w6, .int 1, w8, w9])), (q14, .inl (g.2 0, 40, .inl (upd (upd (upd (upd (upd (upd (upd (upd (upd f15 1 0) 4 1) 9 1) 14 1) 19 1) 24 1) 29 1) 34 1) 39 1))), (q10, .inr (5, [.ref q13, .ref q14])), (q63, .inr (10, [w64, .int 1, .int 1])), (q1, .inr (11, [.ref q63, w53, w54, w55, w56, w57, w58, w59, .int 0, .int 0, w62]))] H := hP
  have hD : va_D A [(q47, .inl (g.2 0, 60, .inl f48)), (q2, .inr (8, [.ref q10, w4, .ref q47, w6, .int 1, w8, w9])), (q14, .inl (g.2 0, 40, .inl (upd (upd (upd (upd (upd (upd (upd (upd (upd f15 1 0) 4 1) 9 1) 14 1) 19 1) 24 1) 29 1) 34 1) 39 1))), (q10, .inr (5, [.ref q13, .ref q14])), (q63, .inr (10, [w64, .int 1, .int 1])), (q1, .inr (11, [.ref q63, w53, w54, w55, w56, w57, w58, w59, .int 0, .int 0, w62]))] := hD
  exact x_vret hx hb hr hlocks hP hD hS hAe hsz (Nat.le_of_ble_eq_true rfl) (Nat.le_of_ble_eq_true rfl) (fun _ => 0) [0, 1, 2, 3, 4, 5] (by decide) rfl dX9_acceptIfFitting_32

set_option maxHeartbeats 4000000 in
set_option maxRecDepth 100000 in
theorem c1547_X9_addClip (l : Launch) (g : gG) (q1 q25 q29 q32 q34 q42 q43 q44 q45 q53 q54 q55 q56 q59 q60 q63 q64 q71 q72 q77 q78 : Nat) (x2 x3 x4 x5 : Int32) (w15 w16 w17 w18 w19 w20 w21 w22 w23 w24 w39 w40 w41 w75 w76 : Value) (f30 : Nat → Option Nat) (f65 : Nat → Int32) (f66 : Nat → Int32) (f79 : Nat → Int32) (f80 : Nat → Int32) (hf31 : f30 1 = some q32) (hf33 : f30 0 = some q34) (hf81 : f66 0 = 0) (hf82 : f66 2 = 0) (hf83 : f66 3 = 0) (hf84 : f66 5 = 0) (hf85 : f66 6 = 0) (hf86 : f66 7 = 0) (hf87 : f66 8 = 0) (hf88 : f66 10 = 0) (hf89 : f66 11 = 0) (hf90 : f66 12 = 0) (hf91 : f66 13 = 0) (hf92 : f66 15 = 0) (hf93 : f66 16 = 0) (hf94 : f66 17 = 0) (hf95 : f66 18 = 0) (hf96 : f66 20 = 0) (hf97 : f66 21 = 0) (hf98 : f66 22 = 0) (hf99 : f66 23 = 0) (hf100 : f66 25 = 0) (hf101 : f66 26 = 0) (hf102 : f66 27 = 0) (hf103 : f66 28 = 0) (hf104 : f66 30 = 0) (hf105 : f66 31 = 0) (hf106 : f66 32 = 0) (hf107 : f66 33 = 0) (hf108 : f66 35 = 0) (hf109 : f66 36 = 0) (hf110 : f66 37 = 0) (hf111 : f66 38 = 0) (h6 : (0 : Int32) ≤ x2) (h7 : x2 ≤ 9999) (h8 : (1 : Int32) ≤ x3) (h9 : x3 ≤ 9) (h10 : ((-50) : Int32) ≤ x4) (h11 : x4 ≤ 50) (h12 : (0 : Int32) ≤ x5) (h13 : x5 ≤ 3) (sz : Nat) : Met l yX9_addClip [Cond.code yX9_addClip cX9_addClip 7 (some .int)] ({ frames := 5, cells := 0, slots := 0, locals := 148 } : Room) (va_Pc [.ref q1, .int x2, .int 4, .int x3, .int x4, .int x5] (PX g sz [(q45, .inl (g.2 0, 20, .inl f80)), (q56, .inl (g.2 0, 20, .inl f80)), (q44, .inl (g.2 0, 60, .inl f65)), (q55, .inl (g.2 0, 60, .inl f65)), (q78, .inl (g.2 0, 10, .inl f79)), (q72, .inl (g.2 0, 10, .inl f79)), (q77, .inl (g.2 0, 10, .inl f65)), (q71, .inl (g.2 0, 10, .inl f65)), (q43, .inr (9, [.ref q77, .ref q78, w75, w76])), (q54, .inr (9, [.ref q71, .ref q72, .int 1, .int 0])), (q64, .inl (g.2 0, 40, .inl f66)), (q60, .inl (g.2 0, 40, .inl f66)), (q63, .inl (g.2 0, 384, .inl f65)), (q59, .inl (g.2 0, 384, .inl f65)), (q42, .inr (5, [.ref q63, .ref q64])), (q53, .inr (5, [.ref q59, .ref q60])), (q34, .inr (8, [.ref q53, .ref q54, .ref q55, .ref q56, .int 0, .int 4, .int 0])), (q32, .inr (8, [.ref q42, .ref q43, .ref q44, .ref q45, w39, w40, w41])), (q29, .inl (g.2 3, 10, .inr (.inr (.inr (.inr f30))))), (q25, .inr (10, [.ref q29, .int 0, .int 0])), (q1, .inr (11, [.ref q25, w15, w16, w17, w18, w19, w20, w21, w22, w23, w24]))])) (QI g [(q45, .inl (g.2 0, 20, .inl f80)), (q56, .inl (g.2 0, 20, .inl f80)), (q44, .inl (g.2 0, 60, .inl f65)), (q55, .inl (g.2 0, 60, .inl f65)), (q78, .inl (g.2 0, 10, .inl f79)), (q72, .inl (g.2 0, 10, .inl f79)), (q77, .inl (g.2 0, 10, .inl f65)), (q71, .inl (g.2 0, 10, .inl f65)), (q43, .inr (9, [.ref q77, .ref q78, w75, w76])), (q54, .inr (9, [.ref q71, .ref q72, .int 1, .int 0])), (q64, .inl (g.2 0, 40, .inl f66)), (q60, .inl (g.2 0, 40, .inl f66)), (q63, .inl (g.2 0, 384, .inl f65)), (q59, .inl (g.2 0, 384, .inl f65)), (q42, .inr (5, [.ref q63, .ref q64])), (q53, .inr (5, [.ref q59, .ref q60])), (q34, .inr (8, [.ref q53, .ref q54, .ref q55, .ref q56, .int 0, .int 4, .int 0])), (q32, .inr (8, [.ref q42, .ref q43, .ref q44, .ref q45, w39, w40, w41])), (q29, .inl (g.2 3, 10, .inr (.inr (.inr (.inr f30))))), (q25, .inr (10, [.ref q29, .int 0, .int 0])), (q1, .inr (11, [.ref q25, w15, w16, w17, w18, w19, w20, w21, w22, w23, w24]))] sz 0 (fun _ => [(q29, .inl (g.2 3, 10, .inr (.inr (.inr (.inr f30))))), (q34, .inr (8, [.ref q53, .ref q54, .ref q55, .ref q56, .int 0, .int 4, .int 0])), (q53, .inr (5, [.ref q59, .ref q60])), (q63, .inl (g.2 0, 384, .inl f65)), (q59, .inl (g.2 0, 384, .inl f65)), (q60, .inl (g.2 0, 40, .inl f66)), (q43, .inr (9, [.ref q77, .ref q78, .int 1, .int 0])), (q54, .inr (9, [.ref q71, .ref q72, .int 1, .int 0])), (q77, .inl (g.2 0, 10, .inl f65)), (q71, .inl (g.2 0, 10, .inl f65)), (q78, .inl (g.2 0, 10, .inl f79)), (q72, .inl (g.2 0, 10, .inl f79)), (q55, .inl (g.2 0, 60, .inl f65)), (q45, .inl (g.2 0, 20, .inl f80)), (q56, .inl (g.2 0, 20, .inl f80)), (q44, .inl (g.2 0, 60, .inl (upd (upd (upd (upd (upd f65 0 x2) 1 4) 2 x3) 3 x4) 4 x5))), (q64, .inl (g.2 0, 40, .inl (upd (upd (upd (upd (upd (upd (upd (upd (upd f66 1 0) 4 1) 9 1) 14 1) 19 1) 24 1) 29 1) 34 1) 39 1))), (q42, .inr (5, [.ref q63, .ref q64])), (q25, .inr (10, [.ref q29, .int 1, .int 1])), (q1, .inr (11, [.ref q25, w15, w16, w17, w18, w19, w20, w21, .int 0, .int 0, w24])), (q32, .inr (8, [.ref q42, .ref q43, .ref q44, .ref q45, .int 1, .int 4, .int 0]))])) 0 0 (va_A [(q45, .inl (g.2 0, 20, .inl f80)), (q56, .inl (g.2 0, 20, .inl f80)), (q44, .inl (g.2 0, 60, .inl f65)), (q55, .inl (g.2 0, 60, .inl f65)), (q78, .inl (g.2 0, 10, .inl f79)), (q72, .inl (g.2 0, 10, .inl f79)), (q77, .inl (g.2 0, 10, .inl f65)), (q71, .inl (g.2 0, 10, .inl f65)), (q43, .inr (9, [.ref q77, .ref q78, w75, w76])), (q54, .inr (9, [.ref q71, .ref q72, .int 1, .int 0])), (q64, .inl (g.2 0, 40, .inl f66)), (q60, .inl (g.2 0, 40, .inl f66)), (q63, .inl (g.2 0, 384, .inl f65)), (q59, .inl (g.2 0, 384, .inl f65)), (q42, .inr (5, [.ref q63, .ref q64])), (q53, .inr (5, [.ref q59, .ref q60])), (q34, .inr (8, [.ref q53, .ref q54, .ref q55, .ref q56, .int 0, .int 4, .int 0])), (q32, .inr (8, [.ref q42, .ref q43, .ref q44, .ref q45, w39, w40, w41])), (q29, .inl (g.2 3, 10, .inr (.inr (.inr (.inr f30))))), (q25, .inr (10, [.ref q29, .int 0, .int 0])), (q1, .inr (11, [.ref q25, w15, w16, w17, w18, w19, w20, w21, w22, w23, w24]))] sz) := by
  refine ofN (by decide) (Nat.le_of_ble_eq_true rfl) rfl ?_
  intro p e s m args below meth c A ls hAe hsz hx hb hml hr hlocks hin hown hE hP hD hA hS hl
  have hown : s.vm.findClass RX9 = some m.cls := hown
  refine lv_iload_n hx hb dX9_addClip_0 rfl (lv_at hl 1 rfl) ?_
  refine lv_iconst (v := 0) hx hb dX9_addClip_1 (by decide) ?_
  refine lv_sipush (v := 9999) hx hb dX9_addClip_2 (by decide) ?_
  refine g0_v (rS (rest := []) hx hb hml hown hE hP hD (c1477_X9_requireRange l g x2 h6 h7 s.heap.size) (kS_X9_requireRange hE (e636 hE) rfl rfl ⟨(Nat.le_of_ble_eq_true rfl), (Nat.le_of_ble_eq_true rfl)⟩) [] rfl (by decide) rfl hl.1 rfl (lv_room (Nat.le_of_ble_eq_true rfl)) dX9_addClip_5 ⟨(Nat.le_of_ble_eq_true rfl), (Nat.le_of_ble_eq_true rfl)⟩) hP hD hS hA (fun u9 H locs hP hS => ?_)
  refine lv_iload_n hx hb dX9_addClip_8 rfl (lv_at hl 2 rfl) ?_
  refine lv_iconst (v := 0) hx hb dX9_addClip_9 (by decide) ?_
  refine lv_bipush (v := 7) hx hb dX9_addClip_10 (by decide) ?_
  refine g0_v (rS (rest := []) hx hb hml hown hE hP hD (c1482_X9_requireRange l g 4 (by decide) (by decide) H.size) (kS_X9_requireRange hE (e636 hE) rfl rfl ⟨(Nat.le_of_ble_eq_true rfl), (Nat.le_of_ble_eq_true rfl)⟩) [] rfl (by decide) rfl hl.1 rfl (lv_room (Nat.le_of_ble_eq_true rfl)) dX9_addClip_12 ⟨(Nat.le_of_ble_eq_true rfl), (Nat.le_of_ble_eq_true rfl)⟩) hP hD hS hA (fun u9 H locs hP hS => ?_)
  refine lv_iload_n hx hb dX9_addClip_15 rfl (lv_at hl 3 rfl) ?_
  refine lv_iconst (v := 1) hx hb dX9_addClip_16 (by decide) ?_
  refine lv_bipush (v := 9) hx hb dX9_addClip_17 (by decide) ?_
  refine g0_v (rS (rest := []) hx hb hml hown hE hP hD (c117_X9_requireRange l g x3 h8 h9 H.size) (kS_X9_requireRange hE (e636 hE) rfl rfl ⟨(Nat.le_of_ble_eq_true rfl), (Nat.le_of_ble_eq_true rfl)⟩) [] rfl (by decide) rfl hl.1 rfl (lv_room (Nat.le_of_ble_eq_true rfl)) dX9_addClip_19 ⟨(Nat.le_of_ble_eq_true rfl), (Nat.le_of_ble_eq_true rfl)⟩) hP hD hS hA (fun u9 H locs hP hS => ?_)
  refine lv_iload hx hb dX9_addClip_22 (lv_at hl 4 rfl) ?_
  refine lv_bipush (v := (-50)) hx hb dX9_addClip_24 (by decide) ?_
  refine lv_bipush (v := 50) hx hb dX9_addClip_26 (by decide) ?_
  refine g0_v (rS (rest := []) hx hb hml hown hE hP hD (c1491_X9_requireRange l g x4 h10 h11 H.size) (kS_X9_requireRange hE (e636 hE) rfl rfl ⟨(Nat.le_of_ble_eq_true rfl), (Nat.le_of_ble_eq_true rfl)⟩) [] rfl (by decide) rfl hl.1 rfl (lv_room (Nat.le_of_ble_eq_true rfl)) dX9_addClip_28 ⟨(Nat.le_of_ble_eq_true rfl), (Nat.le_of_ble_eq_true rfl)⟩) hP hD hS hA (fun u9 H locs hP hS => ?_)
  refine lv_iload hx hb dX9_addClip_31 (lv_at hl 5 rfl) ?_
  refine lv_iconst (v := 0) hx hb dX9_addClip_33 (by decide) ?_
  refine lv_iconst (v := 3) hx hb dX9_addClip_34 (by decide) ?_
  refine g0_v (rS (rest := []) hx hb hml hown hE hP hD (c815_X9_requireRange l g x5 h12 h13 H.size) (kS_X9_requireRange hE (e636 hE) rfl rfl ⟨(Nat.le_of_ble_eq_true rfl), (Nat.le_of_ble_eq_true rfl)⟩) [] rfl (by decide) rfl hl.1 rfl (lv_room (Nat.le_of_ble_eq_true rfl)) dX9_addClip_35 ⟨(Nat.le_of_ble_eq_true rfl), (Nat.le_of_ble_eq_true rfl)⟩) hP hD hS hA (fun u9 H locs hP hS => ?_)
  refine lv_aload_n hx hb dX9_addClip_38 rfl (lv_at hl 0 rfl) ?_
  refine gf_RX9_12 hx hb hown hE hP 20 rfl rfl dX9_addClip_39 ?_
  refine g_r (wr := [(q1, .inr (11, [.ref q25, w15, w16, w17, w18, w19, w20, w21, w22, w23, w24]))]) (rV (rest := []) hx hb hml hown hE hP hD 19 rfl rfl (c127_X8_draft l g q25 q29 q32 q34 q42 q53 q59 q63 q60 q64 q43 q54 q71 q77 q72 q78 q55 q44 q56 q45 (.int 0) w39 w40 w41 w75 w76 f30 f65 f66 f79 f80 (hf31) (hf33) H.size) (kV_X8_draft hE (e659 hE) rfl rfl ⟨(Nat.le_of_ble_eq_true rfl), (Nat.le_of_ble_eq_true rfl)⟩) [0, 1, 2, 3, 4, 5, 6, 7, 8, 9, 10, 11, 12, 13, 14, 15, 16, 17, 18, 19] rfl (by decide) rfl hl.1 rfl (lv_room (Nat.le_of_ble_eq_true rfl)) dX9_addClip_42 ⟨(Nat.le_of_ble_eq_true rfl), (Nat.le_of_ble_eq_true rfl)⟩) hP hD hS hA [0, 1, 2, 3, 4, 5, 6, 7, 8, 9, 10, 11, 12, 13, 14, 15, 16, 17, 18, 19] [20] rfl rfl (by decide) (by decide) (fun u6 H locs hP hD hS => ?_)
  have hP : va_P g.1 vwCl [(q1, .inr (11, [.ref q25, w15, w16, w17, w18, w19, w20, w21, w22, w23, w24])), (q29, .inl (g.2 3, 10, .inr (.inr (.inr (.inr f30))))), (q25, .inr (10, [.ref q29, .int 0, .int 0])), (q34, .inr (8, [.ref q53, .ref q54, .ref q55, .ref q56, .int 0, .int 4, .int 0])), (q32, .inr (8, [.ref q42, .ref q43, .ref q44, .ref q45, .int 0, .int 4, .int 0])), (q42, .inr (5, [.ref q63, .ref q64])), (q53, .inr (5, [.ref q59, .ref q60])), (q63, .inl (g.2 0, 384, .inl f65)), (q59, .inl (g.2 0, 384, .inl f65)), (q64, .inl (g.2 0, 40, .inl f66)), (q60, .inl (g.2 0, 40, .inl f66)), (q43, .inr (9, [.ref q77, .ref q78, .int 1, .int 0])), (q54, .inr (9, [.ref q71, .ref q72, .int 1, .int 0])), (q77, .inl (g.2 0, 10, .inl f65)), (q71, .inl (g.2 0, 10, .inl f65)), (q78, .inl (g.2 0, 10, .inl f79)), (q72, .inl (g.2 0, 10, .inl f79)), (q44, .inl (g.2 0, 60, .inl f65)), (q55, .inl (g.2 0, 60, .inl f65)), (q45, .inl (g.2 0, 20, .inl f80)), (q56, .inl (g.2 0, 20, .inl f80))] H := hP
  have hD : va_D A [(q1, .inr (11, [.ref q25, w15, w16, w17, w18, w19, w20, w21, w22, w23, w24])), (q29, .inl (g.2 3, 10, .inr (.inr (.inr (.inr f30))))), (q25, .inr (10, [.ref q29, .int 0, .int 0])), (q34, .inr (8, [.ref q53, .ref q54, .ref q55, .ref q56, .int 0, .int 4, .int 0])), (q32, .inr (8, [.ref q42, .ref q43, .ref q44, .ref q45, .int 0, .int 4, .int 0])), (q42, .inr (5, [.ref q63, .ref q64])), (q53, .inr (5, [.ref q59, .ref q60])), (q63, .inl (g.2 0, 384, .inl f65)), (q59, .inl (g.2 0, 384, .inl f65)), (q64, .inl (g.2 0, 40, .inl f66)), (q60, .inl (g.2 0, 40, .inl f66)), (q43, .inr (9, [.ref q77, .ref q78, .int 1, .int 0])), (q54, .inr (9, [.ref q71, .ref q72, .int 1, .int 0])), (q77, .inl (g.2 0, 10, .inl f65)), (q71, .inl (g.2 0, 10, .inl f65)), (q78, .inl (g.2 0, 10, .inl f79)), (q72, .inl (g.2 0, 10, .inl f79)), (q44, .inl (g.2 0, 60, .inl f65)), (q55, .inl (g.2 0, 60, .inl f65)), (q45, .inl (g.2 0, 20, .inl f80)), (q56, .inl (g.2 0, 20, .inl f80))] := hD
  refine lv_astore (lv' := [(6, .ref q32), (0, .ref q1), (1, .int x2), (2, .int 4), (3, .int x3), (4, .int x4), (5, .int x5)]) hx hb dX9_addClip_45 hl (by decide) rfl (fun ls hl => ?_)
  refine lv_aload hx hb dX9_addClip_47 (lv_at hl 0 rfl) ?_
  refine g_i (wr := [(q1, .inr (11, [.ref q25, w15, w16, w17, w18, w19, w20, w21, w22, w23, w24])), (q29, .inl (g.2 3, 10, .inr (.inr (.inr (.inr f30))))), (q25, .inr (10, [.ref q29, .int 0, .int 0])), (q34, .inr (8, [.ref q53, .ref q54, .ref q55, .ref q56, .int 0, .int 4, .int 0])), (q42, .inr (5, [.ref q63, .ref q64])), (q53, .inr (5, [.ref q59, .ref q60])), (q63, .inl (g.2 0, 384, .inl f65)), (q59, .inl (g.2 0, 384, .inl f65)), (q64, .inl (g.2 0, 40, .inl f66)), (q60, .inl (g.2 0, 40, .inl f66)), (q43, .inr (9, [.ref q77, .ref q78, .int 1, .int 0])), (q54, .inr (9, [.ref q71, .ref q72, .int 1, .int 0])), (q77, .inl (g.2 0, 10, .inl f65)), (q71, .inl (g.2 0, 10, .inl f65)), (q78, .inl (g.2 0, 10, .inl f79)), (q72, .inl (g.2 0, 10, .inl f79)), (q44, .inl (g.2 0, 60, .inl f65)), (q55, .inl (g.2 0, 60, .inl f65)), (q45, .inl (g.2 0, 20, .inl f80)), (q56, .inl (g.2 0, 20, .inl f80))]) (rV (rest := []) hx hb hml hown hE hP hD 4 rfl rfl (c72_X6_clipCount l g q32 (.ref q42) (.ref q43) (.ref q44) (.ref q45) (.int 4) (.int 0) H.size) (kV_X6_clipCount hE (e297 hE) rfl rfl ⟨(Nat.le_of_ble_eq_true rfl), (Nat.le_of_ble_eq_true rfl)⟩) [4] rfl (by decide) rfl hl.1 rfl (lv_room (Nat.le_of_ble_eq_true rfl)) dX9_addClip_49 ⟨(Nat.le_of_ble_eq_true rfl), (Nat.le_of_ble_eq_true rfl)⟩) hP hD hS hA [4] [0, 1, 2, 3, 5, 6, 7, 8, 9, 10, 11, 12, 13, 14, 15, 16, 17, 18, 19, 20] rfl rfl (by decide) (by decide) (fun u7 H locs hP hD hS => ?_)
  have hP : va_P g.1 vwCl [(q1, .inr (11, [.ref q25, w15, w16, w17, w18, w19, w20, w21, w22, w23, w24])), (q29, .inl (g.2 3, 10, .inr (.inr (.inr (.inr f30))))), (q25, .inr (10, [.ref q29, .int 0, .int 0])), (q34, .inr (8, [.ref q53, .ref q54, .ref q55, .ref q56, .int 0, .int 4, .int 0])), (q42, .inr (5, [.ref q63, .ref q64])), (q53, .inr (5, [.ref q59, .ref q60])), (q63, .inl (g.2 0, 384, .inl f65)), (q59, .inl (g.2 0, 384, .inl f65)), (q64, .inl (g.2 0, 40, .inl f66)), (q60, .inl (g.2 0, 40, .inl f66)), (q43, .inr (9, [.ref q77, .ref q78, .int 1, .int 0])), (q54, .inr (9, [.ref q71, .ref q72, .int 1, .int 0])), (q77, .inl (g.2 0, 10, .inl f65)), (q71, .inl (g.2 0, 10, .inl f65)), (q78, .inl (g.2 0, 10, .inl f79)), (q72, .inl (g.2 0, 10, .inl f79)), (q44, .inl (g.2 0, 60, .inl f65)), (q55, .inl (g.2 0, 60, .inl f65)), (q45, .inl (g.2 0, 20, .inl f80)), (q56, .inl (g.2 0, 20, .inl f80)), (q32, .inr (8, [.ref q42, .ref q43, .ref q44, .ref q45, .int 0, .int 4, .int 0]))] H := hP
  have hD : va_D A [(q1, .inr (11, [.ref q25, w15, w16, w17, w18, w19, w20, w21, w22, w23, w24])), (q29, .inl (g.2 3, 10, .inr (.inr (.inr (.inr f30))))), (q25, .inr (10, [.ref q29, .int 0, .int 0])), (q34, .inr (8, [.ref q53, .ref q54, .ref q55, .ref q56, .int 0, .int 4, .int 0])), (q42, .inr (5, [.ref q63, .ref q64])), (q53, .inr (5, [.ref q59, .ref q60])), (q63, .inl (g.2 0, 384, .inl f65)), (q59, .inl (g.2 0, 384, .inl f65)), (q64, .inl (g.2 0, 40, .inl f66)), (q60, .inl (g.2 0, 40, .inl f66)), (q43, .inr (9, [.ref q77, .ref q78, .int 1, .int 0])), (q54, .inr (9, [.ref q71, .ref q72, .int 1, .int 0])), (q77, .inl (g.2 0, 10, .inl f65)), (q71, .inl (g.2 0, 10, .inl f65)), (q78, .inl (g.2 0, 10, .inl f79)), (q72, .inl (g.2 0, 10, .inl f79)), (q44, .inl (g.2 0, 60, .inl f65)), (q55, .inl (g.2 0, 60, .inl f65)), (q45, .inl (g.2 0, 20, .inl f80)), (q56, .inl (g.2 0, 20, .inl f80)), (q32, .inr (8, [.ref q42, .ref q43, .ref q44, .ref q45, .int 0, .int 4, .int 0]))] := hD
  refine lv_bipush (v := 12) hx hb dX9_addClip_52 (by decide) ?_
  refine lv_icmp_lt (tgt := 67) hx hb dX9_addClip_54 (by decide) (fun _ => ?_) (fun h => absurd (by decide) h)
  refine lv_aload hx hb dX9_addClip_67 (lv_at hl 0 rfl) ?_
  refine lv_iload_n hx hb dX9_addClip_69 rfl (lv_at hl 2 rfl) ?_
  refine lv_iload_n hx hb dX9_addClip_70 rfl (lv_at hl 3 rfl) ?_
  refine lv_iload_n hx hb dX9_addClip_71 rfl (lv_at hl 4 rfl) ?_
  refine lv_iload hx hb dX9_addClip_72 (lv_at hl 5 rfl) ?_
  refine lv_iload hx hb dX9_addClip_74 (lv_at hl 6 rfl) ?_
  refine g_v (wr := [(q1, .inr (11, [.ref q25, w15, w16, w17, w18, w19, w20, w21, w22, w23, w24])), (q29, .inl (g.2 3, 10, .inr (.inr (.inr (.inr f30))))), (q25, .inr (10, [.ref q29, .int 0, .int 0])), (q34, .inr (8, [.ref q53, .ref q54, .ref q55, .ref q56, .int 0, .int 4, .int 0])), (q42, .inr (5, [.ref q63, .ref q64])), (q53, .inr (5, [.ref q59, .ref q60])), (q63, .inl (g.2 0, 384, .inl f65)), (q59, .inl (g.2 0, 384, .inl f65)), (q64, .inl (g.2 0, 40, .inl f66)), (q60, .inl (g.2 0, 40, .inl f66)), (q43, .inr (9, [.ref q77, .ref q78, .int 1, .int 0])), (q54, .inr (9, [.ref q71, .ref q72, .int 1, .int 0])), (q77, .inl (g.2 0, 10, .inl f65)), (q71, .inl (g.2 0, 10, .inl f65)), (q78, .inl (g.2 0, 10, .inl f79)), (q72, .inl (g.2 0, 10, .inl f79)), (q55, .inl (g.2 0, 60, .inl f65)), (q45, .inl (g.2 0, 20, .inl f80)), (q56, .inl (g.2 0, 20, .inl f80))]) (rV (rest := []) hx hb hml hown hE hP hD 20 rfl rfl (c1501_X6_putClip l g q32 q44 x2 4 x3 x4 x5 (.ref q42) (.ref q43) (.ref q45) (.int 4) (.int 0) f65 H.size) (kV_X6_putClip hE (e808 hE) rfl rfl ⟨(Nat.le_of_ble_eq_true rfl), (Nat.le_of_ble_eq_true rfl)⟩) [16, 20] rfl (by decide) rfl hl.1 rfl (lv_room (Nat.le_of_ble_eq_true rfl)) dX9_addClip_76 ⟨(Nat.le_of_ble_eq_true rfl), (Nat.le_of_ble_eq_true rfl)⟩) hP hD hS hA [16, 20] [0, 1, 2, 3, 4, 5, 6, 7, 8, 9, 10, 11, 12, 13, 14, 15, 17, 18, 19] rfl rfl (by decide) (by decide) (fun u8 H locs hP hD hS => ?_)
  have hP : va_P g.1 vwCl [(q1, .inr (11, [.ref q25, w15, w16, w17, w18, w19, w20, w21, w22, w23, w24])), (q29, .inl (g.2 3, 10, .inr (.inr (.inr (.inr f30))))), (q25, .inr (10, [.ref q29, .int 0, .int 0])), (q34, .inr (8, [.ref q53, .ref q54, .ref q55, .ref q56, .int 0, .int 4, .int 0])), (q42, .inr (5, [.ref q63, .ref q64])), (q53, .inr (5, [.ref q59, .ref q60])), (q63, .inl (g.2 0, 384, .inl f65)), (q59, .inl (g.2 0, 384, .inl f65)), (q64, .inl (g.2 0, 40, .inl f66)), (q60, .inl (g.2 0, 40, .inl f66)), (q43, .inr (9, [.ref q77, .ref q78, .int 1, .int 0])), (q54, .inr (9, [.ref q71, .ref q72, .int 1, .int 0])), (q77, .inl (g.2 0, 10, .inl f65)), (q71, .inl (g.2 0, 10, .inl f65)), (q78, .inl (g.2 0, 10, .inl f79)), (q72, .inl (g.2 0, 10, .inl f79)), (q55, .inl (g.2 0, 60, .inl f65)), (q45, .inl (g.2 0, 20, .inl f80)), (q56, .inl (g.2 0, 20, .inl f80)), (q32, .inr (8, [.ref q42, .ref q43, .ref q44, .ref q45, .int 1, .int 4, .int 0])), (q44, .inl (g.2 0, 60, .inl (upd (upd (upd (upd (upd f65 0 x2) 1 4) 2 x3) 3 x4) 4 x5)))] H := hP
  have hD : va_D A [(q1, .inr (11, [.ref q25, w15, w16, w17, w18, w19, w20, w21, w22, w23, w24])), (q29, .inl (g.2 3, 10, .inr (.inr (.inr (.inr f30))))), (q25, .inr (10, [.ref q29, .int 0, .int 0])), (q34, .inr (8, [.ref q53, .ref q54, .ref q55, .ref q56, .int 0, .int 4, .int 0])), (q42, .inr (5, [.ref q63, .ref q64])), (q53, .inr (5, [.ref q59, .ref q60])), (q63, .inl (g.2 0, 384, .inl f65)), (q59, .inl (g.2 0, 384, .inl f65)), (q64, .inl (g.2 0, 40, .inl f66)), (q60, .inl (g.2 0, 40, .inl f66)), (q43, .inr (9, [.ref q77, .ref q78, .int 1, .int 0])), (q54, .inr (9, [.ref q71, .ref q72, .int 1, .int 0])), (q77, .inl (g.2 0, 10, .inl f65)), (q71, .inl (g.2 0, 10, .inl f65)), (q78, .inl (g.2 0, 10, .inl f79)), (q72, .inl (g.2 0, 10, .inl f79)), (q55, .inl (g.2 0, 60, .inl f65)), (q45, .inl (g.2 0, 20, .inl f80)), (q56, .inl (g.2 0, 20, .inl f80)), (q32, .inr (8, [.ref q42, .ref q43, .ref q44, .ref q45, .int 1, .int 4, .int 0])), (q44, .inl (g.2 0, 60, .inl (upd (upd (upd (upd (upd f65 0 x2) 1 4) 2 x3) 3 x4) 4 x5)))] := hD
  refine lv_aload_n hx hb dX9_addClip_79 rfl (lv_at hl 1 rfl) ?_
  refine lv_aload hx hb dX9_addClip_80 (lv_at hl 0 rfl) ?_
  refine g_v (wr := [(q29, .inl (g.2 3, 10, .inr (.inr (.inr (.inr f30))))), (q34, .inr (8, [.ref q53, .ref q54, .ref q55, .ref q56, .int 0, .int 4, .int 0])), (q53, .inr (5, [.ref q59, .ref q60])), (q63, .inl (g.2 0, 384, .inl f65)), (q59, .inl (g.2 0, 384, .inl f65)), (q60, .inl (g.2 0, 40, .inl f66)), (q43, .inr (9, [.ref q77, .ref q78, .int 1, .int 0])), (q54, .inr (9, [.ref q71, .ref q72, .int 1, .int 0])), (q77, .inl (g.2 0, 10, .inl f65)), (q71, .inl (g.2 0, 10, .inl f65)), (q78, .inl (g.2 0, 10, .inl f79)), (q72, .inl (g.2 0, 10, .inl f79)), (q55, .inl (g.2 0, 60, .inl f65)), (q45, .inl (g.2 0, 20, .inl f80)), (q56, .inl (g.2 0, 20, .inl f80))]) (rV (rest := []) hx hb hml hown hE hP hD 0 rfl rfl (c1546_X9_acceptIfFitting l g q1 q32 q42 q63 q64 q44 q25 x3 (.ref q43) (.ref q45) (.int 4) (.int 0) w15 w16 w17 w18 w19 w20 w21 w22 w23 w24 (.ref q29) f66 (upd (upd (upd (upd (upd f65 0 x2) 1 4) 2 x3) 3 x4) 4 x5) (hf81) (hf82) (hf83) (hf84) (hf85) (hf86) (hf87) (hf88) (hf89) (hf90) (hf91) (hf92) (hf93) (hf94) (hf95) (hf96) (hf97) (hf98) (hf99) (hf100) (hf101) (hf102) (hf103) (hf104) (hf105) (hf106) (hf107) (hf108) (hf109) (hf110) (hf111) (((pk_un (by decide)).trans ((pk_un (by decide)).trans pk_us))) (((pk_un (by decide)).trans ((pk_un (by decide)).trans ((pk_un (by decide)).trans pk_us)))) H.size) (kV_X9_acceptIfFitting hE (e690 hE) rfl rfl ⟨(Nat.le_of_ble_eq_true rfl), (Nat.le_of_ble_eq_true rfl)⟩) [2, 0, 20, 8, 4, 19] rfl (by decide) rfl hl.1 rfl (lv_room (Nat.le_of_ble_eq_true rfl)) dX9_addClip_82 ⟨(Nat.le_of_ble_eq_true rfl), (Nat.le_of_ble_eq_true rfl)⟩) hP hD hS hA [2, 0, 20, 8, 4, 19] [1, 3, 5, 6, 7, 9, 10, 11, 12, 13, 14, 15, 16, 17, 18] rfl rfl (by decide) (by decide) (fun u9 H locs hP hD hS => ?_)
  have hP : va_P g.1 vwCl [(q29, .inl (g.2 3, 10, .inr (.inr (.inr (.inr f30))))), (q34, .inr (8, [.ref q53, .ref q54, .ref q55, .ref q56, .int 0, .int 4, .int 0])), (q53, .inr (5, [.ref q59, .ref q60])), (q63, .inl (g.2 0, 384, .inl f65)), (q59, .inl (g.2 0, 384, .inl f65)), (q60, .inl (g.2 0, 40, .inl f66)), (q43, .inr (9, [.ref q77, .ref q78, .int 1, .int 0])), (q54, .inr (9, [.ref q71, .ref q72, .int 1, .int 0])), (q77, .inl (g.2 0, 10, .inl f65)), (q71, .inl (g.2 0, 10, .inl f65)), (q78, .inl (g.2 0, 10, .inl f79)), (q72, .inl (g.2 0, 10, .inl f79)), (q55, .inl (g.2 0, 60, .inl f65)), (q45, .inl (g.2 0, 20, .inl f80)), (q56, .inl (g.2 0, 20, .inl f80)), (q44, .inl (g.2 0, 60, .inl (upd (upd (upd (upd (upd f65 0 x2) 1 4) 2 x3) 3 x4) 4 x5))), (q32, .inr (8, [.ref q42, .ref q43, .ref q44, .ref q45, .int 1, .int 4, .int 0])), (q64, .inl (g.2 0, 40, .inl (upd (upd (upd (upd (upd (upd (upd (upd (upd f66 1 0) 4 1) 9 1) 14 1) 19 1) 24 1) 29 1) 34 1) 39 1))), (q42, .inr (5, [.ref q63, .ref q64])), (q25, .inr (10, [.ref q29, .int 1, .int 1])), (q1, .inr (11, [.ref q25, w15, w16, w17, w18, w19, w20, w21, .int 0, .int 0, w24]))] H := hP
  have hD : va_D A [(q29, .inl (g.2 3, 10, .inr (.inr (.inr (.inr f30))))), (q34, .inr (8, [.ref q53, .ref q54, .ref q55, .ref q56, .int 0, .int 4, .int 0])), (q53, .inr (5, [.ref q59, .ref q60])), (q63, .inl (g.2 0, 384, .inl f65)), (q59, .inl (g.2 0, 384, .inl f65)), (q60, .inl (g.2 0, 40, .inl f66)), (q43, .inr (9, [.ref q77, .ref q78, .int 1, .int 0])), (q54, .inr (9, [.ref q71, .ref q72, .int 1, .int 0])), (q77, .inl (g.2 0, 10, .inl f65)), (q71, .inl (g.2 0, 10, .inl f65)), (q78, .inl (g.2 0, 10, .inl f79)), (q72, .inl (g.2 0, 10, .inl f79)), (q55, .inl (g.2 0, 60, .inl f65)), (q45, .inl (g.2 0, 20, .inl f80)), (q56, .inl (g.2 0, 20, .inl f80)), (q44, .inl (g.2 0, 60, .inl (upd (upd (upd (upd (upd f65 0 x2) 1 4) 2 x3) 3 x4) 4 x5))), (q32, .inr (8, [.ref q42, .ref q43, .ref q44, .ref q45, .int 1, .int 4, .int 0])), (q64, .inl (g.2 0, 40, .inl (upd (upd (upd (upd (upd (upd (upd (upd (upd f66 1 0) 4 1) 9 1) 14 1) 19 1) 24 1) 29 1) 34 1) 39 1))), (q42, .inr (5, [.ref q63, .ref q64])), (q25, .inr (10, [.ref q29, .int 1, .int 1])), (q1, .inr (11, [.ref q25, w15, w16, w17, w18, w19, w20, w21, .int 0, .int 0, w24]))] := hD
  refine lv_aload hx hb dX9_addClip_85 (lv_at hl 0 rfl) ?_
  refine g_i (wr := [(q29, .inl (g.2 3, 10, .inr (.inr (.inr (.inr f30))))), (q34, .inr (8, [.ref q53, .ref q54, .ref q55, .ref q56, .int 0, .int 4, .int 0])), (q53, .inr (5, [.ref q59, .ref q60])), (q63, .inl (g.2 0, 384, .inl f65)), (q59, .inl (g.2 0, 384, .inl f65)), (q60, .inl (g.2 0, 40, .inl f66)), (q43, .inr (9, [.ref q77, .ref q78, .int 1, .int 0])), (q54, .inr (9, [.ref q71, .ref q72, .int 1, .int 0])), (q77, .inl (g.2 0, 10, .inl f65)), (q71, .inl (g.2 0, 10, .inl f65)), (q78, .inl (g.2 0, 10, .inl f79)), (q72, .inl (g.2 0, 10, .inl f79)), (q55, .inl (g.2 0, 60, .inl f65)), (q45, .inl (g.2 0, 20, .inl f80)), (q56, .inl (g.2 0, 20, .inl f80)), (q44, .inl (g.2 0, 60, .inl (upd (upd (upd (upd (upd f65 0 x2) 1 4) 2 x3) 3 x4) 4 x5))), (q64, .inl (g.2 0, 40, .inl (upd (upd (upd (upd (upd (upd (upd (upd (upd f66 1 0) 4 1) 9 1) 14 1) 19 1) 24 1) 29 1) 34 1) 39 1))), (q42, .inr (5, [.ref q63, .ref q64])), (q25, .inr (10, [.ref q29, .int 1, .int 1])), (q1, .inr (11, [.ref q25, w15, w16, w17, w18, w19, w20, w21, .int 0, .int 0, w24]))]) (rV (rest := []) hx hb hml hown hE hP hD 16 rfl rfl (c1509_X6_clipCount l g q32 (.ref q42) (.ref q43) (.ref q44) (.ref q45) (.int 4) (.int 0) H.size) (kV_X6_clipCount hE (e297 hE) rfl rfl ⟨(Nat.le_of_ble_eq_true rfl), (Nat.le_of_ble_eq_true rfl)⟩) [16] rfl (by decide) rfl hl.1 rfl (lv_room (Nat.le_of_ble_eq_true rfl)) dX9_addClip_87 ⟨(Nat.le_of_ble_eq_true rfl), (Nat.le_of_ble_eq_true rfl)⟩) hP hD hS hA [16] [0, 1, 2, 3, 4, 5, 6, 7, 8, 9, 10, 11, 12, 13, 14, 15, 17, 18, 19, 20] rfl rfl (by decide) (by decide) (fun u10 H locs hP hD hS => ?_)
  have hP : va_P g.1 vwCl [(q29, .inl (g.2 3, 10, .inr (.inr (.inr (.inr f30))))), (q34, .inr (8, [.ref q53, .ref q54, .ref q55, .ref q56, .int 0, .int 4, .int 0])), (q53, .inr (5, [.ref q59, .ref q60])), (q63, .inl (g.2 0, 384, .inl f65)), (q59, .inl (g.2 0, 384, .inl f65)), (q60, .inl (g.2 0, 40, .inl f66)), (q43, .inr (9, [.ref q77, .ref q78, .int 1, .int 0])), (q54, .inr (9, [.ref q71, .ref q72, .int 1, .int 0])), (q77, .inl (g.2 0, 10, .inl f65)), (q71, .inl (g.2 0, 10, .inl f65)), (q78, .inl (g.2 0, 10, .inl f79)), (q72, .inl (g.2 0, 10, .inl f79)), (q55, .inl (g.2 0, 60, .inl f65)), (q45, .inl (g.2 0, 20, .inl f80)), (q56, .inl (g.2 0, 20, .inl f80)), (q44, .inl (g.2 0, 60, .inl (upd (upd (upd (upd (upd f65 0 x2) 1 4) 2 x3) 3 x4) 4 x5))), (q64, .inl (g.2 0, 40, .inl (upd (upd (upd (upd (upd (upd (upd (upd (upd f66 1 0) 4 1) 9 1) 14 1) 19 1) 24 1) 29 1) 34 1) 39 1))), (q42, .inr (5, [.ref q63, .ref q64])), (q25, .inr (10, [.ref q29, .int 1, .int 1])), (q1, .inr (11, [.ref q25, w15, w16, w17, w18, w19, w20, w21, .int 0, .int 0, w24])), (q32, .inr (8, [.ref q42, .ref q43, .ref q44, .ref q45, .int 1, .int 4, .int 0]))] H := hP
  have hD : va_D A [(q29, .inl (g.2 3, 10, .inr (.inr (.inr (.inr f30))))), (q34, .inr (8, [.ref q53, .ref q54, .ref q55, .ref q56, .int 0, .int 4, .int 0])), (q53, .inr (5, [.ref q59, .ref q60])), (q63, .inl (g.2 0, 384, .inl f65)), (q59, .inl (g.2 0, 384, .inl f65)), (q60, .inl (g.2 0, 40, .inl f66)), (q43, .inr (9, [.ref q77, .ref q78, .int 1, .int 0])), (q54, .inr (9, [.ref q71, .ref q72, .int 1, .int 0])), (q77, .inl (g.2 0, 10, .inl f65)), (q71, .inl (g.2 0, 10, .inl f65)), (q78, .inl (g.2 0, 10, .inl f79)), (q72, .inl (g.2 0, 10, .inl f79)), (q55, .inl (g.2 0, 60, .inl f65)), (q45, .inl (g.2 0, 20, .inl f80)), (q56, .inl (g.2 0, 20, .inl f80)), (q44, .inl (g.2 0, 60, .inl (upd (upd (upd (upd (upd f65 0 x2) 1 4) 2 x3) 3 x4) 4 x5))), (q64, .inl (g.2 0, 40, .inl (upd (upd (upd (upd (upd (upd (upd (upd (upd f66 1 0) 4 1) 9 1) 14 1) 19 1) 24 1) 29 1) 34 1) 39 1))), (q42, .inr (5, [.ref q63, .ref q64])), (q25, .inr (10, [.ref q29, .int 1, .int 1])), (q1, .inr (11, [.ref q25, w15, w16, w17, w18, w19, w20, w21, .int 0, .int 0, w24])), (q32, .inr (8, [.ref q42, .ref q43, .ref q44, .ref q45, .int 1, .int 4, .int 0]))] := hD
  refine lv_iconst (v := 1) hx hb dX9_addClip_90 (by decide) ?_
  refine x_isub (v := 0) hx hb dX9_addClip_91 (by decide) ?_
  exact x_zret hx hb hr rfl rfl hlocks hP hD hS hAe hsz (Nat.le_of_ble_eq_true rfl) (Nat.le_of_ble_eq_true rfl) (fun _ => 0) [0, 1, 2, 3, 4, 5, 6, 7, 8, 9, 10, 11, 12, 13, 14, 15, 16, 17, 18, 19, 20] (by decide) rfl dX9_addClip_92

set_option maxHeartbeats 4000000 in
set_option maxRecDepth 100000 in
theorem c1548_L_addClip (l : Launch) (g : gG) (hlx : l.stackTraces = false) (q1 q6 q26 q30 q33 q35 q43 q44 q45 q46 q54 q55 q56 q57 q60 q61 q64 q65 q72 q73 q78 q79 : Nat) (x2 x3 x4 x5 : Int32) (w16 w17 w18 w19 w20 w21 w22 w23 w24 w25 w40 w41 w42 w76 w77 : Value) (f31 : Nat → Option Nat) (f66 : Nat → Int32) (f67 : Nat → Int32) (f80 : Nat → Int32) (f81 : Nat → Int32) (f113 : Nat → Int64) (hf32 : f31 1 = some q33) (hf34 : f31 0 = some q35) (hf82 : f67 0 = 0) (hf83 : f67 2 = 0) (hf84 : f67 3 = 0) (hf85 : f67 5 = 0) (hf86 : f67 6 = 0) (hf87 : f67 7 = 0) (hf88 : f67 8 = 0) (hf89 : f67 10 = 0) (hf90 : f67 11 = 0) (hf91 : f67 12 = 0) (hf92 : f67 13 = 0) (hf93 : f67 15 = 0) (hf94 : f67 16 = 0) (hf95 : f67 17 = 0) (hf96 : f67 18 = 0) (hf97 : f67 20 = 0) (hf98 : f67 21 = 0) (hf99 : f67 22 = 0) (hf100 : f67 23 = 0) (hf101 : f67 25 = 0) (hf102 : f67 26 = 0) (hf103 : f67 27 = 0) (hf104 : f67 28 = 0) (hf105 : f67 30 = 0) (hf106 : f67 31 = 0) (hf107 : f67 32 = 0) (hf108 : f67 33 = 0) (hf109 : f67 35 = 0) (hf110 : f67 36 = 0) (hf111 : f67 37 = 0) (hf112 : f67 38 = 0) (h7 : (0 : Int32) ≤ x2) (h8 : x2 ≤ 9999) (h9 : (1 : Int32) ≤ x3) (h10 : x3 ≤ 9) (h11 : ((-50) : Int32) ≤ x4) (h12 : x4 ≤ 50) (h13 : (0 : Int32) ≤ x5) (h14 : x5 ≤ 3) (sz : Nat) : Met l yL_addClip [Cond.codeWith yL_addClip cL_addClip 8 (some .int) [(0, 16, 19, 15), (0, 16, 23, 17)]] ({ frames := 6, cells := 0, slots := 0, locals := 174 } : Room) (va_Pc [.ref q1, .int x2, .int 4, .int x3, .int x4, .int x5, .ref q6] (PZ g sz [(q6, .inl (g.2 1, 1, .inr (.inl f113))), (q46, .inl (g.2 0, 20, .inl f81)), (q57, .inl (g.2 0, 20, .inl f81)), (q45, .inl (g.2 0, 60, .inl f66)), (q56, .inl (g.2 0, 60, .inl f66)), (q79, .inl (g.2 0, 10, .inl f80)), (q73, .inl (g.2 0, 10, .inl f80)), (q78, .inl (g.2 0, 10, .inl f66)), (q72, .inl (g.2 0, 10, .inl f66)), (q44, .inr (9, [.ref q78, .ref q79, w76, w77])), (q55, .inr (9, [.ref q72, .ref q73, .int 1, .int 0])), (q65, .inl (g.2 0, 40, .inl f67)), (q61, .inl (g.2 0, 40, .inl f67)), (q64, .inl (g.2 0, 384, .inl f66)), (q60, .inl (g.2 0, 384, .inl f66)), (q43, .inr (5, [.ref q64, .ref q65])), (q54, .inr (5, [.ref q60, .ref q61])), (q35, .inr (8, [.ref q54, .ref q55, .ref q56, .ref q57, .int 0, .int 4, .int 0])), (q33, .inr (8, [.ref q43, .ref q44, .ref q45, .ref q46, w40, w41, w42])), (q30, .inl (g.2 3, 10, .inr (.inr (.inr (.inr f31))))), (q26, .inr (10, [.ref q30, .int 0, .int 0])), (q1, .inr (11, [.ref q26, w16, w17, w18, w19, w20, w21, w22, w23, w24, w25]))])) (QI g [(q6, .inl (g.2 1, 1, .inr (.inl f113))), (q46, .inl (g.2 0, 20, .inl f81)), (q57, .inl (g.2 0, 20, .inl f81)), (q45, .inl (g.2 0, 60, .inl f66)), (q56, .inl (g.2 0, 60, .inl f66)), (q79, .inl (g.2 0, 10, .inl f80)), (q73, .inl (g.2 0, 10, .inl f80)), (q78, .inl (g.2 0, 10, .inl f66)), (q72, .inl (g.2 0, 10, .inl f66)), (q44, .inr (9, [.ref q78, .ref q79, w76, w77])), (q55, .inr (9, [.ref q72, .ref q73, .int 1, .int 0])), (q65, .inl (g.2 0, 40, .inl f67)), (q61, .inl (g.2 0, 40, .inl f67)), (q64, .inl (g.2 0, 384, .inl f66)), (q60, .inl (g.2 0, 384, .inl f66)), (q43, .inr (5, [.ref q64, .ref q65])), (q54, .inr (5, [.ref q60, .ref q61])), (q35, .inr (8, [.ref q54, .ref q55, .ref q56, .ref q57, .int 0, .int 4, .int 0])), (q33, .inr (8, [.ref q43, .ref q44, .ref q45, .ref q46, w40, w41, w42])), (q30, .inl (g.2 3, 10, .inr (.inr (.inr (.inr f31))))), (q26, .inr (10, [.ref q30, .int 0, .int 0])), (q1, .inr (11, [.ref q26, w16, w17, w18, w19, w20, w21, w22, w23, w24, w25]))] sz 0 (fun _ => [(q6, .inl (g.2 1, 1, .inr (.inl (vp_updL f113 0 0))))])) 0 0 (va_A [(q6, .inl (g.2 1, 1, .inr (.inl f113))), (q46, .inl (g.2 0, 20, .inl f81)), (q57, .inl (g.2 0, 20, .inl f81)), (q45, .inl (g.2 0, 60, .inl f66)), (q56, .inl (g.2 0, 60, .inl f66)), (q79, .inl (g.2 0, 10, .inl f80)), (q73, .inl (g.2 0, 10, .inl f80)), (q78, .inl (g.2 0, 10, .inl f66)), (q72, .inl (g.2 0, 10, .inl f66)), (q44, .inr (9, [.ref q78, .ref q79, w76, w77])), (q55, .inr (9, [.ref q72, .ref q73, .int 1, .int 0])), (q65, .inl (g.2 0, 40, .inl f67)), (q61, .inl (g.2 0, 40, .inl f67)), (q64, .inl (g.2 0, 384, .inl f66)), (q60, .inl (g.2 0, 384, .inl f66)), (q43, .inr (5, [.ref q64, .ref q65])), (q54, .inr (5, [.ref q60, .ref q61])), (q35, .inr (8, [.ref q54, .ref q55, .ref q56, .ref q57, .int 0, .int 4, .int 0])), (q33, .inr (8, [.ref q43, .ref q44, .ref q45, .ref q46, w40, w41, w42])), (q30, .inl (g.2 3, 10, .inr (.inr (.inr (.inr f31))))), (q26, .inr (10, [.ref q30, .int 0, .int 0])), (q1, .inr (11, [.ref q26, w16, w17, w18, w19, w20, w21, w22, w23, w24, w25]))] sz) := by
  refine ofH (by decide) (Nat.le_of_ble_eq_true rfl) rfl ?_
  intro p e s m args below meth c A ls hAe hsz hx hb hml hr hlocks hin hown hE hP hD hA hS hl htb hz
  have hown : s.vm.findClass RL = some m.cls := hown
  refine lv_aload hx hb dL_addClip_0 (lv_at hl 6 rfl) ?_
  refine lv_iconst (v := 0) hx hb dL_addClip_2 (by decide) ?_
  refine lv_aload_n hx hb dL_addClip_3 rfl (lv_at hl 0 rfl) ?_
  refine lv_iload_n hx hb dL_addClip_4 rfl (lv_at hl 1 rfl) ?_
  refine lv_iload_n hx hb dL_addClip_5 rfl (lv_at hl 2 rfl) ?_
  refine lv_iload_n hx hb dL_addClip_6 rfl (lv_at hl 3 rfl) ?_
  refine lv_iload hx hb dL_addClip_7 (lv_at hl 4 rfl) ?_
  refine lv_iload hx hb dL_addClip_9 (lv_at hl 5 rfl) ?_
  refine g_i (wr := [(q6, .inl (g.2 1, 1, .inr (.inl f113)))]) (rV (rest := [.int 0, .ref q6]) hx hb hml hown hE hP hD 21 rfl rfl (c1547_X9_addClip l g q1 q26 q30 q33 q35 q43 q44 q45 q46 q54 q55 q56 q57 q60 q61 q64 q65 q72 q73 q78 q79 x2 x3 x4 x5 w16 w17 w18 w19 w20 w21 w22 w23 w24 w25 w40 w41 w42 w76 w77 f31 f66 f67 f80 f81 (hf32) (hf34) (hf82) (hf83) (hf84) (hf85) (hf86) (hf87) (hf88) (hf89) (hf90) (hf91) (hf92) (hf93) (hf94) (hf95) (hf96) (hf97) (hf98) (hf99) (hf100) (hf101) (hf102) (hf103) (hf104) (hf105) (hf106) (hf107) (hf108) (hf109) (hf110) (hf111) (hf112) h7 h8 h9 h10 h11 h12 h13 h14 s.heap.size) (kV_X9_addClip hE (e803 hE) rfl rfl ⟨(Nat.le_of_ble_eq_true rfl), (Nat.le_of_ble_eq_true rfl)⟩) [1, 2, 3, 4, 5, 6, 7, 8, 9, 10, 11, 12, 13, 14, 15, 16, 17, 18, 19, 20, 21] rfl (by decide) rfl hl.1 rfl (lv_room (Nat.le_of_ble_eq_true rfl)) dL_addClip_11 ⟨(Nat.le_of_ble_eq_true rfl), (Nat.le_of_ble_eq_true rfl)⟩) hP hD hS hA [1, 2, 3, 4, 5, 6, 7, 8, 9, 10, 11, 12, 13, 14, 15, 16, 17, 18, 19, 20, 21] [0] rfl rfl (by decide) (by decide) (fun u1 H locs hP hD hS => ?_)
  have hP : va_P g.1 vwCl [(q6, .inl (g.2 1, 1, .inr (.inl f113))), (q30, .inl (g.2 3, 10, .inr (.inr (.inr (.inr f31))))), (q35, .inr (8, [.ref q54, .ref q55, .ref q56, .ref q57, .int 0, .int 4, .int 0])), (q54, .inr (5, [.ref q60, .ref q61])), (q64, .inl (g.2 0, 384, .inl f66)), (q60, .inl (g.2 0, 384, .inl f66)), (q61, .inl (g.2 0, 40, .inl f67)), (q44, .inr (9, [.ref q78, .ref q79, .int 1, .int 0])), (q55, .inr (9, [.ref q72, .ref q73, .int 1, .int 0])), (q78, .inl (g.2 0, 10, .inl f66)), (q72, .inl (g.2 0, 10, .inl f66)), (q79, .inl (g.2 0, 10, .inl f80)), (q73, .inl (g.2 0, 10, .inl f80)), (q56, .inl (g.2 0, 60, .inl f66)), (q46, .inl (g.2 0, 20, .inl f81)), (q57, .inl (g.2 0, 20, .inl f81)), (q45, .inl (g.2 0, 60, .inl (upd (upd (upd (upd (upd f66 0 x2) 1 4) 2 x3) 3 x4) 4 x5))), (q65, .inl (g.2 0, 40, .inl (upd (upd (upd (upd (upd (upd (upd (upd (upd f67 1 0) 4 1) 9 1) 14 1) 19 1) 24 1) 29 1) 34 1) 39 1))), (q43, .inr (5, [.ref q64, .ref q65])), (q26, .inr (10, [.ref q30, .int 1, .int 1])), (q1, .inr (11, [.ref q26, w16, w17, w18, w19, w20, w21, w22, .int 0, .int 0, w25])), (q33, .inr (8, [.ref q43, .ref q44, .ref q45, .ref q46, .int 1, .int 4, .int 0]))] H := hP
  have hD : va_D A [(q6, .inl (g.2 1, 1, .inr (.inl f113))), (q30, .inl (g.2 3, 10, .inr (.inr (.inr (.inr f31))))), (q35, .inr (8, [.ref q54, .ref q55, .ref q56, .ref q57, .int 0, .int 4, .int 0])), (q54, .inr (5, [.ref q60, .ref q61])), (q64, .inl (g.2 0, 384, .inl f66)), (q60, .inl (g.2 0, 384, .inl f66)), (q61, .inl (g.2 0, 40, .inl f67)), (q44, .inr (9, [.ref q78, .ref q79, .int 1, .int 0])), (q55, .inr (9, [.ref q72, .ref q73, .int 1, .int 0])), (q78, .inl (g.2 0, 10, .inl f66)), (q72, .inl (g.2 0, 10, .inl f66)), (q79, .inl (g.2 0, 10, .inl f80)), (q73, .inl (g.2 0, 10, .inl f80)), (q56, .inl (g.2 0, 60, .inl f66)), (q46, .inl (g.2 0, 20, .inl f81)), (q57, .inl (g.2 0, 20, .inl f81)), (q45, .inl (g.2 0, 60, .inl (upd (upd (upd (upd (upd f66 0 x2) 1 4) 2 x3) 3 x4) 4 x5))), (q65, .inl (g.2 0, 40, .inl (upd (upd (upd (upd (upd (upd (upd (upd (upd f67 1 0) 4 1) 9 1) 14 1) 19 1) 24 1) 29 1) 34 1) 39 1))), (q43, .inr (5, [.ref q64, .ref q65])), (q26, .inr (10, [.ref q30, .int 1, .int 1])), (q1, .inr (11, [.ref q26, w16, w17, w18, w19, w20, w21, w22, .int 0, .int 0, w25])), (q33, .inr (8, [.ref q43, .ref q44, .ref q45, .ref q46, .int 1, .int 4, .int 0]))] := hD
  refine lv_i2l (v := 0) hx hb dL_addClip_14 (by decide) ?_
  refine x_last (ws' := [(q6, .inl (g.2 1, 1, .inr (.inl (vp_updL f113 0 0)))), (q30, .inl (g.2 3, 10, .inr (.inr (.inr (.inr f31))))), (q35, .inr (8, [.ref q54, .ref q55, .ref q56, .ref q57, .int 0, .int 4, .int 0])), (q54, .inr (5, [.ref q60, .ref q61])), (q64, .inl (g.2 0, 384, .inl f66)), (q60, .inl (g.2 0, 384, .inl f66)), (q61, .inl (g.2 0, 40, .inl f67)), (q44, .inr (9, [.ref q78, .ref q79, .int 1, .int 0])), (q55, .inr (9, [.ref q72, .ref q73, .int 1, .int 0])), (q78, .inl (g.2 0, 10, .inl f66)), (q72, .inl (g.2 0, 10, .inl f66)), (q79, .inl (g.2 0, 10, .inl f80)), (q73, .inl (g.2 0, 10, .inl f80)), (q56, .inl (g.2 0, 60, .inl f66)), (q46, .inl (g.2 0, 20, .inl f81)), (q57, .inl (g.2 0, 20, .inl f81)), (q45, .inl (g.2 0, 60, .inl (upd (upd (upd (upd (upd f66 0 x2) 1 4) 2 x3) 3 x4) 4 x5))), (q65, .inl (g.2 0, 40, .inl (upd (upd (upd (upd (upd (upd (upd (upd (upd f67 1 0) 4 1) 9 1) 14 1) 19 1) 24 1) 29 1) 34 1) 39 1))), (q43, .inr (5, [.ref q64, .ref q65])), (q26, .inr (10, [.ref q30, .int 1, .int 1])), (q1, .inr (11, [.ref q26, w16, w17, w18, w19, w20, w21, w22, .int 0, .int 0, w25])), (q33, .inr (8, [.ref q43, .ref q44, .ref q45, .ref q46, .int 1, .int 4, .int 0]))]) hx hb hE hP hD hS 0 rfl 0 (x_in (by decide)) (by decide) dL_addClip_15 rfl (fun H locs hP hD hS => ?_)
  refine lv_goto (tgt := 27) hx hb dL_addClip_16 (by decide) ?_
  refine lv_iconst (v := 0) hx hb dL_addClip_27 (by decide) ?_
  exact x_zret hx hb hr rfl rfl hlocks hP hD hS hAe hsz (Nat.le_of_ble_eq_true rfl) (Nat.le_of_ble_eq_true rfl) (fun _ => 0) [0] (by decide) rfl dL_addClip_28

set_option maxHeartbeats 4000000 in
set_option maxRecDepth 100000 in
theorem c1549_X10_ofClip (l : Launch) (g : gG) (q1 q39 : Nat) (w3 w4 w5 w6 w7 w8 w9 w10 w11 w12 w13 w14 w15 w16 w17 w18 w19 w20 w21 w22 w23 w24 w25 w26 w27 w28 w29 w30 w31 w32 w33 w34 w35 w36 w37 w38 : Value) (f40 : Nat → Int32) (hf41 : f40 394 = 4) (sz : Nat) : Met l yX10_ofClip [Cond.code yX10_ofClip cX10_ofClip 3 (some .int)] ({ frames := 0, cells := 0, slots := 0, locals := 0 } : Room) (va_Pc [.ref q1, .int 0, .int 1] (PX g sz [(q39, .inl (g.2 0, 497, .inl f40)), (q1, .inr (12, [.ref q39, w3, w4, w5, w6, w7, w8, w9, w10, w11, w12, w13, w14, w15, w16, w17, w18, w19, w20, w21, w22, w23, w24, w25, w26, w27, w28, w29, w30, w31, w32, w33, w34, w35, w36, w37, w38]))])) (QI g [(q39, .inl (g.2 0, 497, .inl f40)), (q1, .inr (12, [.ref q39, w3, w4, w5, w6, w7, w8, w9, w10, w11, w12, w13, w14, w15, w16, w17, w18, w19, w20, w21, w22, w23, w24, w25, w26, w27, w28, w29, w30, w31, w32, w33, w34, w35, w36, w37, w38]))] sz 4 (fun _ => [(q39, .inl (g.2 0, 497, .inl f40)), (q1, .inr (12, [.ref q39, w3, w4, w5, w6, w7, w8, w9, w10, w11, w12, w13, w14, w15, w16, w17, w18, w19, w20, w21, w22, w23, w24, w25, w26, w27, w28, w29, w30, w31, w32, w33, w34, w35, w36, w37, w38]))])) 0 0 (va_A [(q39, .inl (g.2 0, 497, .inl f40)), (q1, .inr (12, [.ref q39, w3, w4, w5, w6, w7, w8, w9, w10, w11, w12, w13, w14, w15, w16, w17, w18, w19, w20, w21, w22, w23, w24, w25, w26, w27, w28, w29, w30, w31, w32, w33, w34, w35, w36, w37, w38]))] sz) := by
  refine ofN (by decide) (Nat.le_of_ble_eq_true rfl) rfl ?_
  intro p e s m args below meth c A ls hAe hsz hx hb hml hr hlocks hin hown hE hP hD hA hS hl
  have hown : s.vm.findClass RX10 = some m.cls := hown
  refine lv_aload_n hx hb dX10_ofClip_0 rfl (lv_at hl 0 rfl) ?_
  refine gf_RX10_9 hx hb hown hE hP 1 rfl rfl dX10_ofClip_1 ?_
  refine lv_sipush (v := 393) hx hb dX10_ofClip_4 (by decide) ?_
  refine lv_iconst (v := 5) hx hb dX10_ofClip_7 (by decide) ?_
  refine lv_iload_n hx hb dX10_ofClip_8 rfl (lv_at hl 1 rfl) ?_
  refine x_imul (v := 0) hx hb dX10_ofClip_9 (by decide) ?_
  refine x_iadd (v := 393) hx hb dX10_ofClip_10 (by decide) ?_
  refine lv_iload_n hx hb dX10_ofClip_11 rfl (lv_at hl 2 rfl) ?_
  refine x_iadd (v := 394) hx hb dX10_ofClip_12 (by decide) ?_
  refine x_iald (v := 4) hx hb hE hP 0 rfl 394 (x_in (by decide)) (by decide) hf41 dX10_ofClip_13 ?_
  exact x_zret hx hb hr rfl rfl hlocks hP hD hS hAe hsz (Nat.le_of_ble_eq_true rfl) (Nat.le_of_ble_eq_true rfl) (fun _ => 0) [0, 1] (by decide) rfl dX10_ofClip_14

set_option maxHeartbeats 4000000 in
set_option maxRecDepth 100000 in
theorem c1550_X10_isTooGreat (l : Launch) (g : gG) (q1 q39 q40 q41 : Nat) (x62 : Int32) (w3 w4 w5 w6 w7 w8 w11 w12 w13 w14 w15 w16 w17 w18 w19 w20 w21 w22 w23 w24 w25 w26 w27 w28 w29 w30 w31 w32 w33 w34 w35 w36 w37 w38 : Value) (f42 : Nat → Int32) (f51 : Nat → Int32) (hf43 : f42 0 = 0) (hf44 : f42 49 = 0) (hf45 : f42 98 = 0) (hf46 : f42 147 = 0) (hf47 : f42 196 = 0) (hf48 : f42 245 = 0) (hf49 : f42 294 = 0) (hf50 : f42 343 = 0) (hf52 : f51 0 = 0) (hf53 : f51 1 = 0) (hf54 : f51 2 = 0) (hf55 : f51 3 = 0) (hf56 : f51 4 = 0) (hf57 : f51 5 = 0) (hf58 : f51 6 = 0) (hf59 : f51 7 = 0) (hf60 : f42 392 = 1) (hf61 : f42 395 = x62) (hf63 : f42 394 = 4) (sz : Nat) : Met l yX10_isTooGreat [Cond.code yX10_isTooGreat cX10_isTooGreat 4 (some .boolean)] ({ frames := 3, cells := 0, slots := 0, locals := 66 } : Room) (va_Pc [.ref q1] (PX g sz [(q41, .inl (g.2 0, 8, .inl f51)), (q40, .inl (g.2 0, 8, .inl f51)), (q39, .inl (g.2 0, 497, .inl f42)), (q1, .inr (12, [.ref q39, w3, w4, w5, w6, w7, w8, .ref q40, .ref q41, w11, w12, w13, w14, w15, w16, w17, w18, w19, w20, w21, w22, w23, w24, w25, w26, w27, w28, w29, w30, w31, w32, w33, w34, w35, w36, w37, w38]))])) (QI g [(q41, .inl (g.2 0, 8, .inl f51)), (q40, .inl (g.2 0, 8, .inl f51)), (q39, .inl (g.2 0, 497, .inl f42)), (q1, .inr (12, [.ref q39, w3, w4, w5, w6, w7, w8, .ref q40, .ref q41, w11, w12, w13, w14, w15, w16, w17, w18, w19, w20, w21, w22, w23, w24, w25, w26, w27, w28, w29, w30, w31, w32, w33, w34, w35, w36, w37, w38]))] sz 0 (fun _ => [(q41, .inl (g.2 0, 8, .inl f51)), (q40, .inl (g.2 0, 8, .inl f51)), (q39, .inl (g.2 0, 497, .inl f42)), (q1, .inr (12, [.ref q39, w3, w4, w5, w6, w7, w8, .ref q40, .ref q41, w11, w12, w13, w14, w15, w16, w17, w18, w19, w20, w21, w22, w23, w24, w25, w26, w27, w28, w29, w30, w31, w32, w33, w34, w35, w36, w37, w38]))])) 0 0 (va_A [(q41, .inl (g.2 0, 8, .inl f51)), (q40, .inl (g.2 0, 8, .inl f51)), (q39, .inl (g.2 0, 497, .inl f42)), (q1, .inr (12, [.ref q39, w3, w4, w5, w6, w7, w8, .ref q40, .ref q41, w11, w12, w13, w14, w15, w16, w17, w18, w19, w20, w21, w22, w23, w24, w25, w26, w27, w28, w29, w30, w31, w32, w33, w34, w35, w36, w37, w38]))] sz) := by
  refine ofN (by decide) (Nat.le_of_ble_eq_true rfl) rfl ?_
  intro p e s m args below meth c A ls hAe hsz hx hb hml hr hlocks hin hown hE hP hD hA hS hl
  have hown : s.vm.findClass RX10 = some m.cls := hown
  refine lv_aload_n hx hb dX10_isTooGreat_0 rfl (lv_at hl 0 rfl) ?_
  refine g_v (wr := []) (rV (rest := []) hx hb hml hown hE hP hD 3 rfl rfl (c1241_X10_layLengths l g q1 q39 q40 q41 w3 w4 w5 w6 w7 w8 w11 w12 w13 w14 w15 w16 w17 w18 w19 w20 w21 w22 w23 w24 w25 w26 w27 w28 w29 w30 w31 w32 w33 w34 w35 w36 w37 w38 f42 f51 (hf43) (hf52) (hf44) (hf53) (hf45) (hf54) (hf46) (hf55) (hf47) (hf56) (hf48) (hf57) (hf49) (hf58) (hf50) (hf59) s.heap.size) (kV_X10_layLengths hE (e1452 hE) rfl rfl ⟨(Nat.le_of_ble_eq_true rfl), (Nat.le_of_ble_eq_true rfl)⟩) [0, 1, 2, 3] rfl (by decide) rfl hl.1 rfl (lv_room (Nat.le_of_ble_eq_true rfl)) dX10_isTooGreat_1 ⟨(Nat.le_of_ble_eq_true rfl), (Nat.le_of_ble_eq_true rfl)⟩) hP hD hS hA [0, 1, 2, 3] [] rfl rfl (by decide) (by decide) (fun u1 H locs hP hD hS => ?_)
  have hP : va_P g.1 vwCl [(q41, .inl (g.2 0, 8, .inl f51)), (q40, .inl (g.2 0, 8, .inl f51)), (q39, .inl (g.2 0, 497, .inl f42)), (q1, .inr (12, [.ref q39, w3, w4, w5, w6, w7, w8, .ref q40, .ref q41, w11, w12, w13, w14, w15, w16, w17, w18, w19, w20, w21, w22, w23, w24, w25, w26, w27, w28, w29, w30, w31, w32, w33, w34, w35, w36, w37, w38]))] H := hP
  have hD : va_D A [(q41, .inl (g.2 0, 8, .inl f51)), (q40, .inl (g.2 0, 8, .inl f51)), (q39, .inl (g.2 0, 497, .inl f42)), (q1, .inr (12, [.ref q39, w3, w4, w5, w6, w7, w8, .ref q40, .ref q41, w11, w12, w13, w14, w15, w16, w17, w18, w19, w20, w21, w22, w23, w24, w25, w26, w27, w28, w29, w30, w31, w32, w33, w34, w35, w36, w37, w38]))] := hD
  refine lv_iconst (v := 0) hx hb dX10_isTooGreat_4 (by decide) ?_
  refine lv_istore_n (lv' := [(1, .int 0), (0, .ref q1)]) hx hb dX10_isTooGreat_5 rfl hl (by decide) rfl (fun ls hl => ?_)
  refine lv_iconst (v := 0) hx hb dX10_isTooGreat_6 (by decide) ?_
  refine lv_istore_n (lv' := [(2, .int 0), (1, .int 0), (0, .ref q1)]) hx hb dX10_isTooGreat_7 rfl hl (by decide) rfl (fun ls hl => ?_)
  refine lv_iload_n hx hb dX10_isTooGreat_8 rfl (lv_at hl 0 rfl) ?_
  refine lv_bipush (v := 8) hx hb dX10_isTooGreat_9 (by decide) ?_
  refine lv_icmp_ge (tgt := 40) hx hb dX10_isTooGreat_11 (by decide) (fun h => absurd h (by decide)) (fun _ => ?_)
  refine lv_iload_n hx hb dX10_isTooGreat_14 rfl (lv_at hl 1 rfl) ?_
  refine lv_aload_n hx hb dX10_isTooGreat_15 rfl (lv_at hl 2 rfl) ?_
  refine gf_RX10_22 hx hb hown hE hP 3 rfl rfl dX10_isTooGreat_16 ?_
  refine lv_iload_n hx hb dX10_isTooGreat_19 rfl (lv_at hl 0 rfl) ?_
  refine x_iald (v := 0) hx hb hE hP 1 rfl 0 (x_in (by decide)) (by decide) hf52 dX10_isTooGreat_20 ?_
  refine lv_sipush (v := 20000) hx hb dX10_isTooGreat_21 (by decide) ?_
  refine lv_icmp_le (tgt := 31) hx hb dX10_isTooGreat_24 (by decide) (fun _ => ?_) (fun h => absurd (by decide) h)
  refine lv_iconst (v := 0) hx hb dX10_isTooGreat_31 (by decide) ?_
  refine x_ior (v := 0) hx hb dX10_isTooGreat_32 (by decide) ?_
  refine lv_istore_n (lv' := [(1, .int 0), (2, .int 0), (0, .ref q1)]) hx hb dX10_isTooGreat_33 rfl hl (by decide) rfl (fun ls hl => ?_)
  refine lv_iinc (v := 1) (lv' := [(2, .int 1), (1, .int 0), (0, .ref q1)]) hx hb dX10_isTooGreat_34 hl (k := 1) rfl (by decide) (by decide) rfl (fun ls hl => ?_)
  refine lv_goto (tgt := 8) hx hb dX10_isTooGreat_37 (by decide) ?_
  refine lv_iload_n hx hb dX10_isTooGreat_8 rfl (lv_at hl 0 rfl) ?_
  refine lv_bipush (v := 8) hx hb dX10_isTooGreat_9 (by decide) ?_
  refine lv_icmp_ge (tgt := 40) hx hb dX10_isTooGreat_11 (by decide) (fun h => absurd h (by decide)) (fun _ => ?_)
  refine lv_iload_n hx hb dX10_isTooGreat_14 rfl (lv_at hl 1 rfl) ?_
  refine lv_aload_n hx hb dX10_isTooGreat_15 rfl (lv_at hl 2 rfl) ?_
  refine gf_RX10_22 hx hb hown hE hP 3 rfl rfl dX10_isTooGreat_16 ?_
  refine lv_iload_n hx hb dX10_isTooGreat_19 rfl (lv_at hl 0 rfl) ?_
  refine x_iald (v := 0) hx hb hE hP 1 rfl 1 (x_in (by decide)) (by decide) hf53 dX10_isTooGreat_20 ?_
  refine lv_sipush (v := 20000) hx hb dX10_isTooGreat_21 (by decide) ?_
  refine lv_icmp_le (tgt := 31) hx hb dX10_isTooGreat_24 (by decide) (fun _ => ?_) (fun h => absurd (by decide) h)
  refine lv_iconst (v := 0) hx hb dX10_isTooGreat_31 (by decide) ?_
  refine x_ior (v := 0) hx hb dX10_isTooGreat_32 (by decide) ?_
  refine lv_istore_n (lv' := [(1, .int 0), (2, .int 1), (0, .ref q1)]) hx hb dX10_isTooGreat_33 rfl hl (by decide) rfl (fun ls hl => ?_)
  refine lv_iinc (v := 2) (lv' := [(2, .int 2), (1, .int 0), (0, .ref q1)]) hx hb dX10_isTooGreat_34 hl (k := 1) rfl (by decide) (by decide) rfl (fun ls hl => ?_)
  refine lv_goto (tgt := 8) hx hb dX10_isTooGreat_37 (by decide) ?_
  refine lv_iload_n hx hb dX10_isTooGreat_8 rfl (lv_at hl 0 rfl) ?_
  refine lv_bipush (v := 8) hx hb dX10_isTooGreat_9 (by decide) ?_
  refine lv_icmp_ge (tgt := 40) hx hb dX10_isTooGreat_11 (by decide) (fun h => absurd h (by decide)) (fun _ => ?_)
  refine lv_iload_n hx hb dX10_isTooGreat_14 rfl (lv_at hl 1 rfl) ?_
  refine lv_aload_n hx hb dX10_isTooGreat_15 rfl (lv_at hl 2 rfl) ?_
  refine gf_RX10_22 hx hb hown hE hP 3 rfl rfl dX10_isTooGreat_16 ?_
  refine lv_iload_n hx hb dX10_isTooGreat_19 rfl (lv_at hl 0 rfl) ?_
  refine x_iald (v := 0) hx hb hE hP 1 rfl 2 (x_in (by decide)) (by decide) hf54 dX10_isTooGreat_20 ?_
  refine lv_sipush (v := 20000) hx hb dX10_isTooGreat_21 (by decide) ?_
  refine lv_icmp_le (tgt := 31) hx hb dX10_isTooGreat_24 (by decide) (fun _ => ?_) (fun h => absurd (by decide) h)
  refine lv_iconst (v := 0) hx hb dX10_isTooGreat_31 (by decide) ?_
  refine x_ior (v := 0) hx hb dX10_isTooGreat_32 (by decide) ?_
  refine lv_istore_n (lv' := [(1, .int 0), (2, .int 2), (0, .ref q1)]) hx hb dX10_isTooGreat_33 rfl hl (by decide) rfl (fun ls hl => ?_)
  refine lv_iinc (v := 3) (lv' := [(2, .int 3), (1, .int 0), (0, .ref q1)]) hx hb dX10_isTooGreat_34 hl (k := 1) rfl (by decide) (by decide) rfl (fun ls hl => ?_)
  refine lv_goto (tgt := 8) hx hb dX10_isTooGreat_37 (by decide) ?_
  refine lv_iload_n hx hb dX10_isTooGreat_8 rfl (lv_at hl 0 rfl) ?_
  refine lv_bipush (v := 8) hx hb dX10_isTooGreat_9 (by decide) ?_
  refine lv_icmp_ge (tgt := 40) hx hb dX10_isTooGreat_11 (by decide) (fun h => absurd h (by decide)) (fun _ => ?_)
  refine lv_iload_n hx hb dX10_isTooGreat_14 rfl (lv_at hl 1 rfl) ?_
  refine lv_aload_n hx hb dX10_isTooGreat_15 rfl (lv_at hl 2 rfl) ?_
  refine gf_RX10_22 hx hb hown hE hP 3 rfl rfl dX10_isTooGreat_16 ?_
  refine lv_iload_n hx hb dX10_isTooGreat_19 rfl (lv_at hl 0 rfl) ?_
  refine x_iald (v := 0) hx hb hE hP 1 rfl 3 (x_in (by decide)) (by decide) hf55 dX10_isTooGreat_20 ?_
  refine lv_sipush (v := 20000) hx hb dX10_isTooGreat_21 (by decide) ?_
  refine lv_icmp_le (tgt := 31) hx hb dX10_isTooGreat_24 (by decide) (fun _ => ?_) (fun h => absurd (by decide) h)
  refine lv_iconst (v := 0) hx hb dX10_isTooGreat_31 (by decide) ?_
  refine x_ior (v := 0) hx hb dX10_isTooGreat_32 (by decide) ?_
  refine lv_istore_n (lv' := [(1, .int 0), (2, .int 3), (0, .ref q1)]) hx hb dX10_isTooGreat_33 rfl hl (by decide) rfl (fun ls hl => ?_)
  refine lv_iinc (v := 4) (lv' := [(2, .int 4), (1, .int 0), (0, .ref q1)]) hx hb dX10_isTooGreat_34 hl (k := 1) rfl (by decide) (by decide) rfl (fun ls hl => ?_)
  refine lv_goto (tgt := 8) hx hb dX10_isTooGreat_37 (by decide) ?_
  refine lv_iload_n hx hb dX10_isTooGreat_8 rfl (lv_at hl 0 rfl) ?_
  refine lv_bipush (v := 8) hx hb dX10_isTooGreat_9 (by decide) ?_
  refine lv_icmp_ge (tgt := 40) hx hb dX10_isTooGreat_11 (by decide) (fun h => absurd h (by decide)) (fun _ => ?_)
  refine lv_iload_n hx hb dX10_isTooGreat_14 rfl (lv_at hl 1 rfl) ?_
  refine lv_aload_n hx hb dX10_isTooGreat_15 rfl (lv_at hl 2 rfl) ?_
  refine gf_RX10_22 hx hb hown hE hP 3 rfl rfl dX10_isTooGreat_16 ?_
  refine lv_iload_n hx hb dX10_isTooGreat_19 rfl (lv_at hl 0 rfl) ?_
  refine x_iald (v := 0) hx hb hE hP 1 rfl 4 (x_in (by decide)) (by decide) hf56 dX10_isTooGreat_20 ?_
  refine lv_sipush (v := 20000) hx hb dX10_isTooGreat_21 (by decide) ?_
  refine lv_icmp_le (tgt := 31) hx hb dX10_isTooGreat_24 (by decide) (fun _ => ?_) (fun h => absurd (by decide) h)
  refine lv_iconst (v := 0) hx hb dX10_isTooGreat_31 (by decide) ?_
  refine x_ior (v := 0) hx hb dX10_isTooGreat_32 (by decide) ?_
  refine lv_istore_n (lv' := [(1, .int 0), (2, .int 4), (0, .ref q1)]) hx hb dX10_isTooGreat_33 rfl hl (by decide) rfl (fun ls hl => ?_)
  refine lv_iinc (v := 5) (lv' := [(2, .int 5), (1, .int 0), (0, .ref q1)]) hx hb dX10_isTooGreat_34 hl (k := 1) rfl (by decide) (by decide) rfl (fun ls hl => ?_)
  refine lv_goto (tgt := 8) hx hb dX10_isTooGreat_37 (by decide) ?_
  refine lv_iload_n hx hb dX10_isTooGreat_8 rfl (lv_at hl 0 rfl) ?_
  refine lv_bipush (v := 8) hx hb dX10_isTooGreat_9 (by decide) ?_
  refine lv_icmp_ge (tgt := 40) hx hb dX10_isTooGreat_11 (by decide) (fun h => absurd h (by decide)) (fun _ => ?_)
  refine lv_iload_n hx hb dX10_isTooGreat_14 rfl (lv_at hl 1 rfl) ?_
  refine lv_aload_n hx hb dX10_isTooGreat_15 rfl (lv_at hl 2 rfl) ?_
  refine gf_RX10_22 hx hb hown hE hP 3 rfl rfl dX10_isTooGreat_16 ?_
  refine lv_iload_n hx hb dX10_isTooGreat_19 rfl (lv_at hl 0 rfl) ?_
  refine x_iald (v := 0) hx hb hE hP 1 rfl 5 (x_in (by decide)) (by decide) hf57 dX10_isTooGreat_20 ?_
  refine lv_sipush (v := 20000) hx hb dX10_isTooGreat_21 (by decide) ?_
  refine lv_icmp_le (tgt := 31) hx hb dX10_isTooGreat_24 (by decide) (fun _ => ?_) (fun h => absurd (by decide) h)
  refine lv_iconst (v := 0) hx hb dX10_isTooGreat_31 (by decide) ?_
  refine x_ior (v := 0) hx hb dX10_isTooGreat_32 (by decide) ?_
  refine lv_istore_n (lv' := [(1, .int 0), (2, .int 5), (0, .ref q1)]) hx hb dX10_isTooGreat_33 rfl hl (by decide) rfl (fun ls hl => ?_)
  refine lv_iinc (v := 6) (lv' := [(2, .int 6), (1, .int 0), (0, .ref q1)]) hx hb dX10_isTooGreat_34 hl (k := 1) rfl (by decide) (by decide) rfl (fun ls hl => ?_)
  refine lv_goto (tgt := 8) hx hb dX10_isTooGreat_37 (by decide) ?_
  refine lv_iload_n hx hb dX10_isTooGreat_8 rfl (lv_at hl 0 rfl) ?_
  refine lv_bipush (v := 8) hx hb dX10_isTooGreat_9 (by decide) ?_
  refine lv_icmp_ge (tgt := 40) hx hb dX10_isTooGreat_11 (by decide) (fun h => absurd h (by decide)) (fun _ => ?_)
  refine lv_iload_n hx hb dX10_isTooGreat_14 rfl (lv_at hl 1 rfl) ?_
  refine lv_aload_n hx hb dX10_isTooGreat_15 rfl (lv_at hl 2 rfl) ?_
  refine gf_RX10_22 hx hb hown hE hP 3 rfl rfl dX10_isTooGreat_16 ?_
  refine lv_iload_n hx hb dX10_isTooGreat_19 rfl (lv_at hl 0 rfl) ?_
  refine x_iald (v := 0) hx hb hE hP 1 rfl 6 (x_in (by decide)) (by decide) hf58 dX10_isTooGreat_20 ?_
  refine lv_sipush (v := 20000) hx hb dX10_isTooGreat_21 (by decide) ?_
  refine lv_icmp_le (tgt := 31) hx hb dX10_isTooGreat_24 (by decide) (fun _ => ?_) (fun h => absurd (by decide) h)
  refine lv_iconst (v := 0) hx hb dX10_isTooGreat_31 (by decide) ?_
  refine x_ior (v := 0) hx hb dX10_isTooGreat_32 (by decide) ?_
  refine lv_istore_n (lv' := [(1, .int 0), (2, .int 6), (0, .ref q1)]) hx hb dX10_isTooGreat_33 rfl hl (by decide) rfl (fun ls hl => ?_)
  refine lv_iinc (v := 7) (lv' := [(2, .int 7), (1, .int 0), (0, .ref q1)]) hx hb dX10_isTooGreat_34 hl (k := 1) rfl (by decide) (by decide) rfl (fun ls hl => ?_)
  refine lv_goto (tgt := 8) hx hb dX10_isTooGreat_37 (by decide) ?_
  refine lv_iload_n hx hb dX10_isTooGreat_8 rfl (lv_at hl 0 rfl) ?_
  refine lv_bipush (v := 8) hx hb dX10_isTooGreat_9 (by decide) ?_
  refine lv_icmp_ge (tgt := 40) hx hb dX10_isTooGreat_11 (by decide) (fun h => absurd h (by decide)) (fun _ => ?_)
  refine lv_iload_n hx hb dX10_isTooGreat_14 rfl (lv_at hl 1 rfl) ?_
  refine lv_aload_n hx hb dX10_isTooGreat_15 rfl (lv_at hl 2 rfl) ?_
  refine gf_RX10_22 hx hb hown hE hP 3 rfl rfl dX10_isTooGreat_16 ?_
  refine lv_iload_n hx hb dX10_isTooGreat_19 rfl (lv_at hl 0 rfl) ?_
  refine x_iald (v := 0) hx hb hE hP 1 rfl 7 (x_in (by decide)) (by decide) hf59 dX10_isTooGreat_20 ?_
  refine lv_sipush (v := 20000) hx hb dX10_isTooGreat_21 (by decide) ?_
  refine lv_icmp_le (tgt := 31) hx hb dX10_isTooGreat_24 (by decide) (fun _ => ?_) (fun h => absurd (by decide) h)
  refine lv_iconst (v := 0) hx hb dX10_isTooGreat_31 (by decide) ?_
  refine x_ior (v := 0) hx hb dX10_isTooGreat_32 (by decide) ?_
  refine lv_istore_n (lv' := [(1, .int 0), (2, .int 7), (0, .ref q1)]) hx hb dX10_isTooGreat_33 rfl hl (by decide) rfl (fun ls hl => ?_)
  refine lv_iinc (v := 8) (lv' := [(2, .int 8), (1, .int 0), (0, .ref q1)]) hx hb dX10_isTooGreat_34 hl (k := 1) rfl (by decide) (by decide) rfl (fun ls hl => ?_)
  refine lv_goto (tgt := 8) hx hb dX10_isTooGreat_37 (by decide) ?_
  refine lv_iload_n hx hb dX10_isTooGreat_8 rfl (lv_at hl 0 rfl) ?_
  refine lv_bipush (v := 8) hx hb dX10_isTooGreat_9 (by decide) ?_
  refine lv_icmp_ge (tgt := 40) hx hb dX10_isTooGreat_11 (by decide) (fun _ => ?_) (fun h => absurd (by decide) h)
  refine lv_iconst (v := 0) hx hb dX10_isTooGreat_40 (by decide) ?_
  refine lv_istore_n (lv' := [(2, .int 0), (1, .int 0), (0, .ref q1)]) hx hb dX10_isTooGreat_41 rfl hl (by decide) rfl (fun ls hl => ?_)
  refine lv_iconst (v := 0) hx hb dX10_isTooGreat_42 (by decide) ?_
  refine lv_istore_n (lv' := [(3, .int 0), (2, .int 0), (1, .int 0), (0, .ref q1)]) hx hb dX10_isTooGreat_43 rfl hl (by decide) rfl (fun ls hl => ?_)
  refine lv_iload_n hx hb dX10_isTooGreat_44 rfl (lv_at hl 0 rfl) ?_
  refine lv_aload_n hx hb dX10_isTooGreat_45 rfl (lv_at hl 3 rfl) ?_
  refine gf_RX10_9 hx hb hown hE hP 3 rfl rfl dX10_isTooGreat_46 ?_
  refine lv_sipush (v := 392) hx hb dX10_isTooGreat_49 (by decide) ?_
  refine x_iald (v := 1) hx hb hE hP 2 rfl 392 (x_in (by decide)) (by decide) hf60 dX10_isTooGreat_52 ?_
  refine lv_icmp_ge (tgt := 115) hx hb dX10_isTooGreat_53 (by decide) (fun h => absurd h (by decide)) (fun _ => ?_)
  refine lv_iload_n hx hb dX10_isTooGreat_56 rfl (lv_at hl 2 rfl) ?_
  refine lv_aload_n hx hb dX10_isTooGreat_57 rfl (lv_at hl 3 rfl) ?_
  refine lv_iload_n hx hb dX10_isTooGreat_58 rfl (lv_at hl 0 rfl) ?_
  refine lv_iconst (v := 2) hx hb dX10_isTooGreat_59 (by decide) ?_
  refine g_i (wr := [(q41, .inl (g.2 0, 8, .inl f51)), (q40, .inl (g.2 0, 8, .inl f51))]) (rV (rest := [.int 0]) hx hb hml hown hE hP hD 3 rfl rfl (c1512_X10_ofClip l g q1 q39 x62 w3 w4 w5 w6 w7 w8 (.ref q40) (.ref q41) w11 w12 w13 w14 w15 w16 w17 w18 w19 w20 w21 w22 w23 w24 w25 w26 w27 w28 w29 w30 w31 w32 w33 w34 w35 w36 w37 w38 f42 (hf61) H.size) (kV_X10_ofClip hE (e1466 hE) rfl rfl ⟨(Nat.le_of_ble_eq_true rfl), (Nat.le_of_ble_eq_true rfl)⟩) [2, 3] rfl (by decide) rfl hl.1 rfl (lv_room (Nat.le_of_ble_eq_true rfl)) dX10_isTooGreat_60 ⟨(Nat.le_of_ble_eq_true rfl), (Nat.le_of_ble_eq_true rfl)⟩) hP hD hS hA [2, 3] [0, 1] rfl rfl (by decide) (by decide) (fun u2 H locs hP hD hS => ?_)
  have hP : va_P g.1 vwCl [(q41, .inl (g.2 0, 8, .inl f51)), (q40, .inl (g.2 0, 8, .inl f51)), (q39, .inl (g.2 0, 497, .inl f42)), (q1, .inr (12, [.ref q39, w3, w4, w5, w6, w7, w8, .ref q40, .ref q41, w11, w12, w13, w14, w15, w16, w17, w18, w19, w20, w21, w22, w23, w24, w25, w26, w27, w28, w29, w30, w31, w32, w33, w34, w35, w36, w37, w38]))] H := hP
  have hD : va_D A [(q41, .inl (g.2 0, 8, .inl f51)), (q40, .inl (g.2 0, 8, .inl f51)), (q39, .inl (g.2 0, 497, .inl f42)), (q1, .inr (12, [.ref q39, w3, w4, w5, w6, w7, w8, .ref q40, .ref q41, w11, w12, w13, w14, w15, w16, w17, w18, w19, w20, w21, w22, w23, w24, w25, w26, w27, w28, w29, w30, w31, w32, w33, w34, w35, w36, w37, w38]))] := hD
  refine lv_aload_n hx hb dX10_isTooGreat_63 rfl (lv_at hl 3 rfl) ?_
  refine gf_RX10_22 hx hb hown hE hP 3 rfl rfl dX10_isTooGreat_64 ?_
  refine lv_aload_n hx hb dX10_isTooGreat_67 rfl (lv_at hl 3 rfl) ?_
  refine lv_iload_n hx hb dX10_isTooGreat_68 rfl (lv_at hl 0 rfl) ?_
  refine lv_iconst (v := 1) hx hb dX10_isTooGreat_69 (by decide) ?_
  refine g_i (wr := [(q41, .inl (g.2 0, 8, .inl f51)), (q40, .inl (g.2 0, 8, .inl f51))]) (rV (rest := [.ref q40, .int x62, .int 0]) hx hb hml hown hE hP hD 3 rfl rfl (c1549_X10_ofClip l g q1 q39 w3 w4 w5 w6 w7 w8 (.ref q40) (.ref q41) w11 w12 w13 w14 w15 w16 w17 w18 w19 w20 w21 w22 w23 w24 w25 w26 w27 w28 w29 w30 w31 w32 w33 w34 w35 w36 w37 w38 f42 (hf63) H.size) (kV_X10_ofClip hE (e1466 hE) rfl rfl ⟨(Nat.le_of_ble_eq_true rfl), (Nat.le_of_ble_eq_true rfl)⟩) [2, 3] rfl (by decide) rfl hl.1 rfl (lv_room (Nat.le_of_ble_eq_true rfl)) dX10_isTooGreat_70 ⟨(Nat.le_of_ble_eq_true rfl), (Nat.le_of_ble_eq_true rfl)⟩) hP hD hS hA [2, 3] [0, 1] rfl rfl (by decide) (by decide) (fun u3 H locs hP hD hS => ?_)
  have hP : va_P g.1 vwCl [(q41, .inl (g.2 0, 8, .inl f51)), (q40, .inl (g.2 0, 8, .inl f51)), (q39, .inl (g.2 0, 497, .inl f42)), (q1, .inr (12, [.ref q39, w3, w4, w5, w6, w7, w8, .ref q40, .ref q41, w11, w12, w13, w14, w15, w16, w17, w18, w19, w20, w21, w22, w23, w24, w25, w26, w27, w28, w29, w30, w31, w32, w33, w34, w35, w36, w37, w38]))] H := hP
  have hD : va_D A [(q41, .inl (g.2 0, 8, .inl f51)), (q40, .inl (g.2 0, 8, .inl f51)), (q39, .inl (g.2 0, 497, .inl f42)), (q1, .inr (12, [.ref q39, w3, w4, w5, w6, w7, w8, .ref q40, .ref q41, w11, w12, w13, w14, w15, w16, w17, w18, w19, w20, w21, w22, w23, w24, w25, w26, w27, w28, w29, w30, w31, w32, w33, w34, w35, w36, w37, w38]))] := hD
  refine x_iald (v := 0) hx hb hE hP 1 rfl 4 (x_in (by decide)) (by decide) hf56 dX10_isTooGreat_73 ?_
  refine x_imul (v := 0) hx hb dX10_isTooGreat_74 (Int32.mul_zero) ?_
  refine lv_sipush (v := 20000) hx hb dX10_isTooGreat_75 (by decide) ?_
  refine lv_icmp_le (tgt := 85) hx hb dX10_isTooGreat_78 (by decide) (fun _ => ?_) (fun h => absurd (by decide) h)
  refine lv_iconst (v := 0) hx hb dX10_isTooGreat_85 (by decide) ?_
  refine x_ior (v := 0) hx hb dX10_isTooGreat_86 (by decide) ?_
  refine lv_istore_n (lv' := [(1, .int 0), (3, .int 0), (2, .int 0), (0, .ref q1)]) hx hb dX10_isTooGreat_87 rfl hl (by decide) rfl (fun ls hl => ?_)
  refine lv_iload_n hx hb dX10_isTooGreat_88 rfl (lv_at hl 2 rfl) ?_
  refine lv_aload_n hx hb dX10_isTooGreat_89 rfl (lv_at hl 3 rfl) ?_
  refine lv_iload_n hx hb dX10_isTooGreat_90 rfl (lv_at hl 1 rfl) ?_
  refine lv_iconst (v := 2) hx hb dX10_isTooGreat_91 (by decide) ?_
  refine g_i (wr := [(q41, .inl (g.2 0, 8, .inl f51)), (q40, .inl (g.2 0, 8, .inl f51))]) (rV (rest := [.int 0]) hx hb hml hown hE hP hD 3 rfl rfl (c1512_X10_ofClip l g q1 q39 x62 w3 w4 w5 w6 w7 w8 (.ref q40) (.ref q41) w11 w12 w13 w14 w15 w16 w17 w18 w19 w20 w21 w22 w23 w24 w25 w26 w27 w28 w29 w30 w31 w32 w33 w34 w35 w36 w37 w38 f42 (hf61) H.size) (kV_X10_ofClip hE (e1466 hE) rfl rfl ⟨(Nat.le_of_ble_eq_true rfl), (Nat.le_of_ble_eq_true rfl)⟩) [2, 3] rfl (by decide) rfl hl.1 rfl (lv_room (Nat.le_of_ble_eq_true rfl)) dX10_isTooGreat_92 ⟨(Nat.le_of_ble_eq_true rfl), (Nat.le_of_ble_eq_true rfl)⟩) hP hD hS hA [2, 3] [0, 1] rfl rfl (by decide) (by decide) (fun u4 H locs hP hD hS => ?_)
  have hP : va_P g.1 vwCl [(q41, .inl (g.2 0, 8, .inl f51)), (q40, .inl (g.2 0, 8, .inl f51)), (q39, .inl (g.2 0, 497, .inl f42)), (q1, .inr (12, [.ref q39, w3, w4, w5, w6, w7, w8, .ref q40, .ref q41, w11, w12, w13, w14, w15, w16, w17, w18, w19, w20, w21, w22, w23, w24, w25, w26, w27, w28, w29, w30, w31, w32, w33, w34, w35, w36, w37, w38]))] H := hP
  have hD : va_D A [(q41, .inl (g.2 0, 8, .inl f51)), (q40, .inl (g.2 0, 8, .inl f51)), (q39, .inl (g.2 0, 497, .inl f42)), (q1, .inr (12, [.ref q39, w3, w4, w5, w6, w7, w8, .ref q40, .ref q41, w11, w12, w13, w14, w15, w16, w17, w18, w19, w20, w21, w22, w23, w24, w25, w26, w27, w28, w29, w30, w31, w32, w33, w34, w35, w36, w37, w38]))] := hD
  refine lv_aload_n hx hb dX10_isTooGreat_95 rfl (lv_at hl 3 rfl) ?_
  refine gf_RX10_25 hx hb hown hE hP 3 rfl rfl dX10_isTooGreat_96 ?_
  refine lv_aload_n hx hb dX10_isTooGreat_99 rfl (lv_at hl 3 rfl) ?_
  refine lv_iload_n hx hb dX10_isTooGreat_100 rfl (lv_at hl 1 rfl) ?_
  refine lv_iconst (v := 1) hx hb dX10_isTooGreat_101 (by decide) ?_
  refine g_i (wr := [(q41, .inl (g.2 0, 8, .inl f51)), (q40, .inl (g.2 0, 8, .inl f51))]) (rV (rest := [.ref q41, .int x62, .int 0]) hx hb hml hown hE hP hD 3 rfl rfl (c1549_X10_ofClip l g q1 q39 w3 w4 w5 w6 w7 w8 (.ref q40) (.ref q41) w11 w12 w13 w14 w15 w16 w17 w18 w19 w20 w21 w22 w23 w24 w25 w26 w27 w28 w29 w30 w31 w32 w33 w34 w35 w36 w37 w38 f42 (hf63) H.size) (kV_X10_ofClip hE (e1466 hE) rfl rfl ⟨(Nat.le_of_ble_eq_true rfl), (Nat.le_of_ble_eq_true rfl)⟩) [2, 3] rfl (by decide) rfl hl.1 rfl (lv_room (Nat.le_of_ble_eq_true rfl)) dX10_isTooGreat_102 ⟨(Nat.le_of_ble_eq_true rfl), (Nat.le_of_ble_eq_true rfl)⟩) hP hD hS hA [2, 3] [0, 1] rfl rfl (by decide) (by decide) (fun u5 H locs hP hD hS => ?_)
  have hP : va_P g.1 vwCl [(q41, .inl (g.2 0, 8, .inl f51)), (q40, .inl (g.2 0, 8, .inl f51)), (q39, .inl (g.2 0, 497, .inl f42)), (q1, .inr (12, [.ref q39, w3, w4, w5, w6, w7, w8, .ref q40, .ref q41, w11, w12, w13, w14, w15, w16, w17, w18, w19, w20, w21, w22, w23, w24, w25, w26, w27, w28, w29, w30, w31, w32, w33, w34, w35, w36, w37, w38]))] H := hP
  have hD : va_D A [(q41, .inl (g.2 0, 8, .inl f51)), (q40, .inl (g.2 0, 8, .inl f51)), (q39, .inl (g.2 0, 497, .inl f42)), (q1, .inr (12, [.ref q39, w3, w4, w5, w6, w7, w8, .ref q40, .ref q41, w11, w12, w13, w14, w15, w16, w17, w18, w19, w20, w21, w22, w23, w24, w25, w26, w27, w28, w29, w30, w31, w32, w33, w34, w35, w36, w37, w38]))] := hD
  refine x_iald (v := 0) hx hb hE hP 0 rfl 4 (x_in (by decide)) (by decide) hf56 dX10_isTooGreat_105 ?_
  refine x_imul (v := 0) hx hb dX10_isTooGreat_106 (Int32.mul_zero) ?_
  refine x_iadd (v := 0) hx hb dX10_isTooGreat_107 (by decide) ?_
  refine lv_istore_n (lv' := [(2, .int 0), (1, .int 0), (3, .int 0), (0, .ref q1)]) hx hb dX10_isTooGreat_108 rfl hl (by decide) rfl (fun ls hl => ?_)
  refine lv_iinc (v := 1) (lv' := [(3, .int 1), (2, .int 0), (1, .int 0), (0, .ref q1)]) hx hb dX10_isTooGreat_109 hl (k := 2) rfl (by decide) (by decide) rfl (fun ls hl => ?_)
  refine lv_goto (tgt := 44) hx hb dX10_isTooGreat_112 (by decide) ?_
  refine lv_iload_n hx hb dX10_isTooGreat_44 rfl (lv_at hl 0 rfl) ?_
  refine lv_aload_n hx hb dX10_isTooGreat_45 rfl (lv_at hl 3 rfl) ?_
  refine gf_RX10_9 hx hb hown hE hP 3 rfl rfl dX10_isTooGreat_46 ?_
  refine lv_sipush (v := 392) hx hb dX10_isTooGreat_49 (by decide) ?_
  refine x_iald (v := 1) hx hb hE hP 2 rfl 392 (x_in (by decide)) (by decide) hf60 dX10_isTooGreat_52 ?_
  refine lv_icmp_ge (tgt := 115) hx hb dX10_isTooGreat_53 (by decide) (fun _ => ?_) (fun h => absurd (by decide) h)
  refine lv_iload_n hx hb dX10_isTooGreat_115 rfl (lv_at hl 2 rfl) ?_
  refine lv_if_ne (tgt := 126) hx hb dX10_isTooGreat_116 (by decide) (fun h => absurd h (by decide)) (fun _ => ?_)
  refine lv_iload_n hx hb dX10_isTooGreat_119 rfl (lv_at hl 1 rfl) ?_
  refine lv_sipush (v := 300) hx hb dX10_isTooGreat_120 (by decide) ?_
  refine lv_icmp_le (tgt := 130) hx hb dX10_isTooGreat_123 (by decide) (fun _ => ?_) (fun h => absurd (by decide) h)
  refine lv_iconst (v := 0) hx hb dX10_isTooGreat_130 (by decide) ?_
  exact x_zret hx hb hr rfl rfl hlocks hP hD hS hAe hsz (Nat.le_of_ble_eq_true rfl) (Nat.le_of_ble_eq_true rfl) (fun _ => 0) [0, 1, 2, 3] (by decide) rfl dX10_isTooGreat_131

set_option maxHeartbeats 4000000 in
set_option maxRecDepth 100000 in
theorem c1551_X10_addClip (l : Launch) (g : gG) (q1 q51 q54 q56 q57 q74 : Nat) (x2 x3 x4 x5 : Int32) (w7 w9 w12 w15 w16 w17 w18 w19 w20 w21 w22 w23 w24 w25 w26 w27 w28 w29 w30 w31 w32 w33 w34 w35 w36 w37 w38 w39 w40 w41 w42 : Value) (f52 : Nat → Int32) (f55 : Nat → Int32) (hf53 : f52 392 = 0) (hf58 : f52 0 = 0) (hf59 : f52 49 = 0) (hf60 : f52 98 = 0) (hf61 : f52 147 = 0) (hf62 : f52 196 = 0) (hf63 : f52 245 = 0) (hf64 : f52 294 = 0) (hf65 : f52 343 = 0) (hf66 : f55 0 = 0) (hf67 : f55 1 = 0) (hf68 : f55 2 = 0) (hf69 : f55 3 = 0) (hf70 : f55 4 = 0) (hf71 : f55 5 = 0) (hf72 : f55 6 = 0) (hf73 : f55 7 = 0) (h43 : (0 : Int32) ≤ x2) (h44 : x2 ≤ 9999) (h45 : (1 : Int32) ≤ x3) (h46 : x3 ≤ 9) (h47 : ((-50) : Int32) ≤ x4) (h48 : x4 ≤ 50) (h49 : (0 : Int32) ≤ x5) (h50 : x5 ≤ 3) (sz : Nat) : Met l yX10_addClip [Cond.code yX10_addClip cX10_addClip 8 (some .int)] ({ frames := 4, cells := 0, slots := 0, locals := 89 } : Room) (va_Pc [.ref q1, .int x2, .int 4, .int x3, .int x4, .int x5] (PX g sz [(q74, .inl (g.2 0, 3976, .inl f55)), (q57, .inl (g.2 0, 8, .inl f55)), (q56, .inl (g.2 0, 8, .inl f55)), (q54, .inl (g.2 0, 497, .inl f55)), (q51, .inl (g.2 0, 497, .inl f52)), (q1, .inr (12, [.ref q51, w7, .ref q54, w9, .ref q74, .int 0, w12, .ref q56, .ref q57, w15, w16, w17, w18, w19, w20, w21, w22, w23, w24, w25, w26, w27, w28, w29, w30, w31, w32, w33, w34, w35, w36, w37, w38, w39, w40, w41, w42]))])) (QI g [(q74, .inl (g.2 0, 3976, .inl f55)), (q57, .inl (g.2 0, 8, .inl f55)), (q56, .inl (g.2 0, 8, .inl f55)), (q54, .inl (g.2 0, 497, .inl f55)), (q51, .inl (g.2 0, 497, .inl f52)), (q1, .inr (12, [.ref q51, w7, .ref q54, w9, .ref q74, .int 0, w12, .ref q56, .ref q57, w15, w16, w17, w18, w19, w20, w21, w22, w23, w24, w25, w26, w27, w28, w29, w30, w31, w32, w33, w34, w35, w36, w37, w38, w39, w40, w41, w42]))] sz 0 (fun _ => [(q1, .inr (12, [.ref q51, w7, .ref q54, w9, .ref q74, .int 1, .int 0, .ref q56, .ref q57, w15, w16, w17, w18, w19, w20, w21, w22, w23, w24, w25, w26, w27, w28, w29, w30, w31, w32, w33, w34, w35, w36, w37, w38, w39, w40, w41, w42]))])) 0 0 (va_A [(q74, .inl (g.2 0, 3976, .inl f55)), (q57, .inl (g.2 0, 8, .inl f55)), (q56, .inl (g.2 0, 8, .inl f55)), (q54, .inl (g.2 0, 497, .inl f55)), (q51, .inl (g.2 0, 497, .inl f52)), (q1, .inr (12, [.ref q51, w7, .ref q54, w9, .ref q74, .int 0, w12, .ref q56, .ref q57, w15, w16, w17, w18, w19, w20, w21, w22, w23, w24, w25, w26, w27, w28, w29, w30, w31, w32, w33, w34, w35, w36, w37, w38, w39, w40, w41, w42]))] sz) := by
  refine ofN (by decide) (Nat.le_of_ble_eq_true rfl) rfl ?_
  intro p e s m args below meth c A ls hAe hsz hx hb hml hr hlocks hin hown hE hP hD hA hS hl
  have hown : s.vm.findClass RX10 = some m.cls := hown
  refine lv_aload_n hx hb dX10_addClip_0 rfl (lv_at hl 0 rfl) ?_
  refine lv_iconst (v := 0) hx hb dX10_addClip_1 (by decide) ?_
  refine pf_RX10_86 (ws' := [(q74, .inl (g.2 0, 3976, .inl f55)), (q57, .inl (g.2 0, 8, .inl f55)), (q56, .inl (g.2 0, 8, .inl f55)), (q54, .inl (g.2 0, 497, .inl f55)), (q51, .inl (g.2 0, 497, .inl f52)), (q1, .inr (12, [.ref q51, w7, .ref q54, w9, .ref q74, .int 0, .int 0, .ref q56, .ref q57, w15, w16, w17, w18, w19, w20, w21, w22, w23, w24, w25, w26, w27, w28, w29, w30, w31, w32, w33, w34, w35, w36, w37, w38, w39, w40, w41, w42]))]) hx hb hown hE hP hD hS 5 rfl rfl rfl (Nat.le_of_ble_eq_true rfl) dX10_addClip_2 rfl (fun H locs hP hD hS => ?_)
  refine lv_iload_n hx hb dX10_addClip_5 rfl (lv_at hl 1 rfl) ?_
  refine lv_iconst (v := 0) hx hb dX10_addClip_6 (by decide) ?_
  refine lv_sipush (v := 9999) hx hb dX10_addClip_7 (by decide) ?_
  refine g0_i (rS (rest := []) hx hb hml hown hE hP hD (c1480_X10_in l g x2 h43 h44 H.size) (kS_X10_in hE (e1431 hE) rfl rfl ⟨(Nat.le_of_ble_eq_true rfl), (Nat.le_of_ble_eq_true rfl)⟩) [] rfl (by decide) rfl hl.1 rfl (lv_room (Nat.le_of_ble_eq_true rfl)) dX10_addClip_10 ⟨(Nat.le_of_ble_eq_true rfl), (Nat.le_of_ble_eq_true rfl)⟩) hP hD hS hA (fun u9 H locs hP hS => ?_)
  refine lv_if_eq (tgt := 59) hx hb dX10_addClip_13 (by decide) (fun h => absurd h (by decide)) (fun _ => ?_)
  refine lv_iload_n hx hb dX10_addClip_16 rfl (lv_at hl 2 rfl) ?_
  refine g0_i (rS (rest := []) hx hb hml hown hE hP hD (c94_X10_isPattern l g 4 (by decide) (by decide) H.size) (kS_X10_isPattern hE (e1428 hE) rfl rfl ⟨(Nat.le_of_ble_eq_true rfl), (Nat.le_of_ble_eq_true rfl)⟩) [] rfl (by decide) rfl hl.1 rfl (lv_room (Nat.le_of_ble_eq_true rfl)) dX10_addClip_17 ⟨(Nat.le_of_ble_eq_true rfl), (Nat.le_of_ble_eq_true rfl)⟩) hP hD hS hA (fun u9 H locs hP hS => ?_)
  refine lv_if_eq (tgt := 59) hx hb dX10_addClip_20 (by decide) (fun h => absurd h (by decide)) (fun _ => ?_)
  refine lv_iload_n hx hb dX10_addClip_23 rfl (lv_at hl 3 rfl) ?_
  refine lv_iconst (v := 1) hx hb dX10_addClip_24 (by decide) ?_
  refine lv_bipush (v := 9) hx hb dX10_addClip_25 (by decide) ?_
  refine g0_i (rS (rest := []) hx hb hml hown hE hP hD (c196_X10_in l g x3 h45 h46 H.size) (kS_X10_in hE (e1431 hE) rfl rfl ⟨(Nat.le_of_ble_eq_true rfl), (Nat.le_of_ble_eq_true rfl)⟩) [] rfl (by decide) rfl hl.1 rfl (lv_room (Nat.le_of_ble_eq_true rfl)) dX10_addClip_27 ⟨(Nat.le_of_ble_eq_true rfl), (Nat.le_of_ble_eq_true rfl)⟩) hP hD hS hA (fun u9 H locs hP hS => ?_)
  refine lv_if_eq (tgt := 59) hx hb dX10_addClip_30 (by decide) (fun h => absurd h (by decide)) (fun _ => ?_)
  refine lv_iload hx hb dX10_addClip_33 (lv_at hl 4 rfl) ?_
  refine lv_bipush (v := (-50)) hx hb dX10_addClip_35 (by decide) ?_
  refine lv_bipush (v := 50) hx hb dX10_addClip_37 (by decide) ?_
  refine g0_i (rS (rest := []) hx hb hml hown hE hP hD (c1494_X10_in l g x4 h47 h48 H.size) (kS_X10_in hE (e1431 hE) rfl rfl ⟨(Nat.le_of_ble_eq_true rfl), (Nat.le_of_ble_eq_true rfl)⟩) [] rfl (by decide) rfl hl.1 rfl (lv_room (Nat.le_of_ble_eq_true rfl)) dX10_addClip_39 ⟨(Nat.le_of_ble_eq_true rfl), (Nat.le_of_ble_eq_true rfl)⟩) hP hD hS hA (fun u9 H locs hP hS => ?_)
  refine lv_if_eq (tgt := 59) hx hb dX10_addClip_42 (by decide) (fun h => absurd h (by decide)) (fun _ => ?_)
  refine lv_iload hx hb dX10_addClip_45 (lv_at hl 5 rfl) ?_
  refine lv_iconst (v := 0) hx hb dX10_addClip_47 (by decide) ?_
  refine lv_iconst (v := 3) hx hb dX10_addClip_48 (by decide) ?_
  refine g0_i (rS (rest := []) hx hb hml hown hE hP hD (c818_X10_in l g x5 h49 h50 H.size) (kS_X10_in hE (e1431 hE) rfl rfl ⟨(Nat.le_of_ble_eq_true rfl), (Nat.le_of_ble_eq_true rfl)⟩) [] rfl (by decide) rfl hl.1 rfl (lv_room (Nat.le_of_ble_eq_true rfl)) dX10_addClip_49 ⟨(Nat.le_of_ble_eq_true rfl), (Nat.le_of_ble_eq_true rfl)⟩) hP hD hS hA (fun u9 H locs hP hS => ?_)
  refine lv_if_eq (tgt := 59) hx hb dX10_addClip_52 (by decide) (fun h => absurd h (by decide)) (fun _ => ?_)
  refine lv_iconst (v := 1) hx hb dX10_addClip_55 (by decide) ?_
  refine lv_goto (tgt := 60) hx hb dX10_addClip_56 (by decide) ?_
  refine lv_istore (lv' := [(6, .int 1), (0, .ref q1), (1, .int x2), (2, .int 4), (3, .int x3), (4, .int x4), (5, .int x5)]) hx hb dX10_addClip_60 hl (by decide) rfl (fun ls hl => ?_)
  refine lv_iload hx hb dX10_addClip_62 (lv_at hl 0 rfl) ?_
  refine lv_if_ne (tgt := 73) hx hb dX10_addClip_64 (by decide) (fun _ => ?_) (fun h => absurd h (by decide))
  refine lv_aload_n hx hb dX10_addClip_73 rfl (lv_at hl 1 rfl) ?_
  refine gf_RX10_9 hx hb hown hE hP 5 rfl rfl dX10_addClip_74 ?_
  refine lv_sipush (v := 392) hx hb dX10_addClip_77 (by decide) ?_
  refine x_iald (v := 0) hx hb hE hP 4 rfl 392 (x_in (by decide)) (by decide) hf53 dX10_addClip_80 ?_
  refine lv_bipush (v := 12) hx hb dX10_addClip_81 (by decide) ?_
  refine lv_icmp_ne (tgt := 92) hx hb dX10_addClip_83 (by decide) (fun _ => ?_) (fun h => absurd h (by decide))
  refine lv_aload_n hx hb dX10_addClip_92 rfl (lv_at hl 1 rfl) ?_
  refine g_v (wr := [(q74, .inl (g.2 0, 3976, .inl f55)), (q57, .inl (g.2 0, 8, .inl f55)), (q56, .inl (g.2 0, 8, .inl f55))]) (rV (rest := []) hx hb hml hown hE hP hD 5 rfl rfl (c198_X10_putAside l g q1 q54 q51 w7 w9 (.ref q74) (.int 0) (.int 0) (.ref q56) (.ref q57) w15 w16 w17 w18 w19 w20 w21 w22 w23 w24 w25 w26 w27 w28 w29 w30 w31 w32 w33 w34 w35 w36 w37 w38 w39 w40 w41 w42 f52 f55 H.size) (kV_X10_putAside hE (e1437 hE) rfl rfl ⟨(Nat.le_of_ble_eq_true rfl), (Nat.le_of_ble_eq_true rfl)⟩) [3, 4, 5] rfl (by decide) rfl hl.1 rfl (lv_room (Nat.le_of_ble_eq_true rfl)) dX10_addClip_93 ⟨(Nat.le_of_ble_eq_true rfl), (Nat.le_of_ble_eq_true rfl)⟩) hP hD hS hA [3, 4, 5] [0, 1, 2] rfl rfl (by decide) (by decide) (fun u6 H locs hP hD hS => ?_)
  have hP : va_P g.1 vwCl [(q74, .inl (g.2 0, 3976, .inl f55)), (q57, .inl (g.2 0, 8, .inl f55)), (q56, .inl (g.2 0, 8, .inl f55)), (q54, .inl (g.2 0, 497, .inl (cpF 497 f52 f55))), (q51, .inl (g.2 0, 497, .inl f52)), (q1, .inr (12, [.ref q51, w7, .ref q54, w9, .ref q74, .int 0, .int 0, .ref q56, .ref q57, w15, w16, w17, w18, w19, w20, w21, w22, w23, w24, w25, w26, w27, w28, w29, w30, w31, w32, w33, w34, w35, w36, w37, w38, w39, w40, w41, w42]))] H := hP
  have hD : va_D A [(q74, .inl (g.2 0, 3976, .inl f55)), (q57, .inl (g.2 0, 8, .inl f55)), (q56, .inl (g.2 0, 8, .inl f55)), (q54, .inl (g.2 0, 497, .inl (cpF 497 f52 f55))), (q51, .inl (g.2 0, 497, .inl f52)), (q1, .inr (12, [.ref q51, w7, .ref q54, w9, .ref q74, .int 0, .int 0, .ref q56, .ref q57, w15, w16, w17, w18, w19, w20, w21, w22, w23, w24, w25, w26, w27, w28, w29, w30, w31, w32, w33, w34, w35, w36, w37, w38, w39, w40, w41, w42]))] := hD
  refine lv_sipush (v := 393) hx hb dX10_addClip_96 (by decide) ?_
  refine lv_iconst (v := 5) hx hb dX10_addClip_99 (by decide) ?_
  refine lv_aload_n hx hb dX10_addClip_100 rfl (lv_at hl 1 rfl) ?_
  refine gf_RX10_9 hx hb hown hE hP 5 rfl rfl dX10_addClip_101 ?_
  refine lv_sipush (v := 392) hx hb dX10_addClip_104 (by decide) ?_
  refine x_iald (v := 0) hx hb hE hP 4 rfl 392 (x_in (by decide)) (by decide) hf53 dX10_addClip_107 ?_
  refine x_imul (v := 0) hx hb dX10_addClip_108 (by decide) ?_
  refine x_iadd (v := 393) hx hb dX10_addClip_109 (by decide) ?_
  refine lv_istore (lv' := [(7, .int 393), (6, .int 1), (0, .ref q1), (1, .int x2), (2, .int 4), (3, .int x3), (4, .int x4), (5, .int x5)]) hx hb dX10_addClip_110 hl (by decide) rfl (fun ls hl => ?_)
  refine lv_aload_n hx hb dX10_addClip_112 rfl (lv_at hl 2 rfl) ?_
  refine gf_RX10_9 hx hb hown hE hP 5 rfl rfl dX10_addClip_113 ?_
  refine lv_iload hx hb dX10_addClip_116 (lv_at hl 0 rfl) ?_
  refine lv_iload_n hx hb dX10_addClip_118 rfl (lv_at hl 3 rfl) ?_
  refine x_iast (ws' := [(q74, .inl (g.2 0, 3976, .inl f55)), (q57, .inl (g.2 0, 8, .inl f55)), (q56, .inl (g.2 0, 8, .inl f55)), (q54, .inl (g.2 0, 497, .inl (cpF 497 f52 f55))), (q51, .inl (g.2 0, 497, .inl (upd f52 393 x2))), (q1, .inr (12, [.ref q51, w7, .ref q54, w9, .ref q74, .int 0, .int 0, .ref q56, .ref q57, w15, w16, w17, w18, w19, w20, w21, w22, w23, w24, w25, w26, w27, w28, w29, w30, w31, w32, w33, w34, w35, w36, w37, w38, w39, w40, w41, w42]))]) hx hb hE hP hD hS 4 rfl 393 (x_in (by decide)) (by decide) dX10_addClip_119 rfl (fun H locs hP hD hS => ?_)
  refine lv_aload_n hx hb dX10_addClip_120 rfl (lv_at hl 2 rfl) ?_
  refine gf_RX10_9 hx hb hown hE hP 5 rfl rfl dX10_addClip_121 ?_
  refine lv_iload hx hb dX10_addClip_124 (lv_at hl 0 rfl) ?_
  refine lv_iconst (v := 1) hx hb dX10_addClip_126 (by decide) ?_
  refine x_iadd (v := 394) hx hb dX10_addClip_127 (by decide) ?_
  refine lv_iload_n hx hb dX10_addClip_128 rfl (lv_at hl 4 rfl) ?_
  refine x_iast (ws' := [(q74, .inl (g.2 0, 3976, .inl f55)), (q57, .inl (g.2 0, 8, .inl f55)), (q56, .inl (g.2 0, 8, .inl f55)), (q54, .inl (g.2 0, 497, .inl (cpF 497 f52 f55))), (q51, .inl (g.2 0, 497, .inl (upd (upd f52 393 x2) 394 4))), (q1, .inr (12, [.ref q51, w7, .ref q54, w9, .ref q74, .int 0, .int 0, .ref q56, .ref q57, w15, w16, w17, w18, w19, w20, w21, w22, w23, w24, w25, w26, w27, w28, w29, w30, w31, w32, w33, w34, w35, w36, w37, w38, w39, w40, w41, w42]))]) hx hb hE hP hD hS 4 rfl 394 (x_in (by decide)) (by decide) dX10_addClip_129 rfl (fun H locs hP hD hS => ?_)
  refine lv_aload_n hx hb dX10_addClip_130 rfl (lv_at hl 2 rfl) ?_
  refine gf_RX10_9 hx hb hown hE hP 5 rfl rfl dX10_addClip_131 ?_
  refine lv_iload hx hb dX10_addClip_134 (lv_at hl 0 rfl) ?_
  refine lv_iconst (v := 2) hx hb dX10_addClip_136 (by decide) ?_
  refine x_iadd (v := 395) hx hb dX10_addClip_137 (by decide) ?_
  refine lv_iload_n hx hb dX10_addClip_138 rfl (lv_at hl 5 rfl) ?_
  refine x_iast (ws' := [(q74, .inl (g.2 0, 3976, .inl f55)), (q57, .inl (g.2 0, 8, .inl f55)), (q56, .inl (g.2 0, 8, .inl f55)), (q54, .inl (g.2 0, 497, .inl (cpF 497 f52 f55))), (q51, .inl (g.2 0, 497, .inl (upd (upd (upd f52 393 x2) 394 4) 395 x3))), (q1, .inr (12, [.ref q51, w7, .ref q54, w9, .ref q74, .int 0, .int 0, .ref q56, .ref q57, w15, w16, w17, w18, w19, w20, w21, w22, w23, w24, w25, w26, w27, w28, w29, w30, w31, w32, w33, w34, w35, w36, w37, w38, w39, w40, w41, w42]))]) hx hb hE hP hD hS 4 rfl 395 (x_in (by decide)) (by decide) dX10_addClip_139 rfl (fun H locs hP hD hS => ?_)
  refine lv_aload_n hx hb dX10_addClip_140 rfl (lv_at hl 2 rfl) ?_
  refine gf_RX10_9 hx hb hown hE hP 5 rfl rfl dX10_addClip_141 ?_
  refine lv_iload hx hb dX10_addClip_144 (lv_at hl 0 rfl) ?_
  refine lv_iconst (v := 3) hx hb dX10_addClip_146 (by decide) ?_
  refine x_iadd (v := 396) hx hb dX10_addClip_147 (by decide) ?_
  refine lv_iload hx hb dX10_addClip_148 (lv_at hl 6 rfl) ?_
  refine x_iast (ws' := [(q74, .inl (g.2 0, 3976, .inl f55)), (q57, .inl (g.2 0, 8, .inl f55)), (q56, .inl (g.2 0, 8, .inl f55)), (q54, .inl (g.2 0, 497, .inl (cpF 497 f52 f55))), (q51, .inl (g.2 0, 497, .inl (upd (upd (upd (upd f52 393 x2) 394 4) 395 x3) 396 x4))), (q1, .inr (12, [.ref q51, w7, .ref q54, w9, .ref q74, .int 0, .int 0, .ref q56, .ref q57, w15, w16, w17, w18, w19, w20, w21, w22, w23, w24, w25, w26, w27, w28, w29, w30, w31, w32, w33, w34, w35, w36, w37, w38, w39, w40, w41, w42]))]) hx hb hE hP hD hS 4 rfl 396 (x_in (by decide)) (by decide) dX10_addClip_150 rfl (fun H locs hP hD hS => ?_)
  refine lv_aload_n hx hb dX10_addClip_151 rfl (lv_at hl 2 rfl) ?_
  refine gf_RX10_9 hx hb hown hE hP 5 rfl rfl dX10_addClip_152 ?_
  refine lv_iload hx hb dX10_addClip_155 (lv_at hl 0 rfl) ?_
  refine lv_iconst (v := 4) hx hb dX10_addClip_157 (by decide) ?_
  refine x_iadd (v := 397) hx hb dX10_addClip_158 (by decide) ?_
  refine lv_iload hx hb dX10_addClip_159 (lv_at hl 7 rfl) ?_
  refine x_iast (ws' := [(q74, .inl (g.2 0, 3976, .inl f55)), (q57, .inl (g.2 0, 8, .inl f55)), (q56, .inl (g.2 0, 8, .inl f55)), (q54, .inl (g.2 0, 497, .inl (cpF 497 f52 f55))), (q51, .inl (g.2 0, 497, .inl (upd (upd (upd (upd (upd f52 393 x2) 394 4) 395 x3) 396 x4) 397 x5))), (q1, .inr (12, [.ref q51, w7, .ref q54, w9, .ref q74, .int 0, .int 0, .ref q56, .ref q57, w15, w16, w17, w18, w19, w20, w21, w22, w23, w24, w25, w26, w27, w28, w29, w30, w31, w32, w33, w34, w35, w36, w37, w38, w39, w40, w41, w42]))]) hx hb hE hP hD hS 4 rfl 397 (x_in (by decide)) (by decide) dX10_addClip_161 rfl (fun H locs hP hD hS => ?_)
  refine lv_aload_n hx hb dX10_addClip_162 rfl (lv_at hl 2 rfl) ?_
  refine gf_RX10_9 hx hb hown hE hP 5 rfl rfl dX10_addClip_163 ?_
  refine lv_sipush (v := 392) hx hb dX10_addClip_166 (by decide) ?_
  refine lv_dup2_11 hx hb dX10_addClip_169 rfl rfl ?_
  refine x_iald (v := 0) hx hb hE hP 4 rfl 392 (x_in (by decide)) (by decide) ((pk_un (by decide)).trans ((pk_un (by decide)).trans ((pk_un (by decide)).trans ((pk_un (by decide)).trans ((pk_un (by decide)).trans hf53))))) dX10_addClip_170 ?_
  refine lv_iconst (v := 1) hx hb dX10_addClip_171 (by decide) ?_
  refine x_iadd (v := 1) hx hb dX10_addClip_172 (by decide) ?_
  refine x_iast (ws' := [(q74, .inl (g.2 0, 3976, .inl f55)), (q57, .inl (g.2 0, 8, .inl f55)), (q56, .inl (g.2 0, 8, .inl f55)), (q54, .inl (g.2 0, 497, .inl (cpF 497 f52 f55))), (q51, .inl (g.2 0, 497, .inl (upd (upd (upd (upd (upd (upd f52 393 x2) 394 4) 395 x3) 396 x4) 397 x5) 392 1))), (q1, .inr (12, [.ref q51, w7, .ref q54, w9, .ref q74, .int 0, .int 0, .ref q56, .ref q57, w15, w16, w17, w18, w19, w20, w21, w22, w23, w24, w25, w26, w27, w28, w29, w30, w31, w32, w33, w34, w35, w36, w37, w38, w39, w40, w41, w42]))]) hx hb hE hP hD hS 4 rfl 392 (x_in (by decide)) (by decide) dX10_addClip_173 rfl (fun H locs hP hD hS => ?_)
  refine lv_aload_n hx hb dX10_addClip_174 rfl (lv_at hl 2 rfl) ?_
  refine g_i (wr := [(q74, .inl (g.2 0, 3976, .inl f55)), (q54, .inl (g.2 0, 497, .inl (cpF 497 f52 f55)))]) (rV (rest := []) hx hb hml hown hE hP hD 5 rfl rfl (c1550_X10_isTooGreat l g q1 q51 q56 q57 x3 w7 (.ref q54) w9 (.ref q74) (.int 0) (.int 0) w15 w16 w17 w18 w19 w20 w21 w22 w23 w24 w25 w26 w27 w28 w29 w30 w31 w32 w33 w34 w35 w36 w37 w38 w39 w40 w41 w42 (upd (upd (upd (upd (upd (upd f52 393 x2) 394 4) 395 x3) 396 x4) 397 x5) 392 1) f55 (((pk_un (by decide)).trans ((pk_un (by decide)).trans ((pk_un (by decide)).trans ((pk_un (by decide)).trans ((pk_un (by decide)).trans ((pk_un (by decide)).trans hf58))))))) (((pk_un (by decide)).trans ((pk_un (by decide)).trans ((pk_un (by decide)).trans ((pk_un (by decide)).trans ((pk_un (by decide)).trans ((pk_un (by decide)).trans hf59))))))) (((pk_un (by decide)).trans ((pk_un (by decide)).trans ((pk_un (by decide)).trans ((pk_un (by decide)).trans ((pk_un (by decide)).trans ((pk_un (by decide)).trans hf60))))))) (((pk_un (by decide)).trans ((pk_un (by decide)).trans ((pk_un (by decide)).trans ((pk_un (by decide)).trans ((pk_un (by decide)).trans ((pk_un (by decide)).trans hf61))))))) (((pk_un (by decide)).trans ((pk_un (by decide)).trans ((pk_un (by decide)).trans ((pk_un (by decide)).trans ((pk_un (by decide)).trans ((pk_un (by decide)).trans hf62))))))) (((pk_un (by decide)).trans ((pk_un (by decide)).trans ((pk_un (by decide)).trans ((pk_un (by decide)).trans ((pk_un (by decide)).trans ((pk_un (by decide)).trans hf63))))))) (((pk_un (by decide)).trans ((pk_un (by decide)).trans ((pk_un (by decide)).trans ((pk_un (by decide)).trans ((pk_un (by decide)).trans ((pk_un (by decide)).trans hf64))))))) (((pk_un (by decide)).trans ((pk_un (by decide)).trans ((pk_un (by decide)).trans ((pk_un (by decide)).trans ((pk_un (by decide)).trans ((pk_un (by decide)).trans hf65))))))) (hf66) (hf67) (hf68) (hf69) (hf70) (hf71) (hf72) (hf73) (pk_us) (((pk_un (by decide)).trans ((pk_un (by decide)).trans ((pk_un (by decide)).trans pk_us)))) (((pk_un (by decide)).trans ((pk_un (by decide)).trans ((pk_un (by decide)).trans ((pk_un (by decide)).trans pk_us))))) H.size) (kV_X10_isTooGreat hE (e1448 hE) rfl rfl ⟨(Nat.le_of_ble_eq_true rfl), (Nat.le_of_ble_eq_true rfl)⟩) [1, 2, 4, 5] rfl (by decide) rfl hl.1 rfl (lv_room (Nat.le_of_ble_eq_true rfl)) dX10_addClip_175 ⟨(Nat.le_of_ble_eq_true rfl), (Nat.le_of_ble_eq_true rfl)⟩) hP hD hS hA [1, 2, 4, 5] [0, 3] rfl rfl (by decide) (by decide) (fun u7 H locs hP hD hS => ?_)
  have hP : va_P g.1 vwCl [(q74, .inl (g.2 0, 3976, .inl f55)), (q54, .inl (g.2 0, 497, .inl (cpF 497 f52 f55))), (q57, .inl (g.2 0, 8, .inl f55)), (q56, .inl (g.2 0, 8, .inl f55)), (q51, .inl (g.2 0, 497, .inl (upd (upd (upd (upd (upd (upd f52 393 x2) 394 4) 395 x3) 396 x4) 397 x5) 392 1))), (q1, .inr (12, [.ref q51, w7, .ref q54, w9, .ref q74, .int 0, .int 0, .ref q56, .ref q57, w15, w16, w17, w18, w19, w20, w21, w22, w23, w24, w25, w26, w27, w28, w29, w30, w31, w32, w33, w34, w35, w36, w37, w38, w39, w40, w41, w42]))] H := hP
  have hD : va_D A [(q74, .inl (g.2 0, 3976, .inl f55)), (q54, .inl (g.2 0, 497, .inl (cpF 497 f52 f55))), (q57, .inl (g.2 0, 8, .inl f55)), (q56, .inl (g.2 0, 8, .inl f55)), (q51, .inl (g.2 0, 497, .inl (upd (upd (upd (upd (upd (upd f52 393 x2) 394 4) 395 x3) 396 x4) 397 x5) 392 1))), (q1, .inr (12, [.ref q51, w7, .ref q54, w9, .ref q74, .int 0, .int 0, .ref q56, .ref q57, w15, w16, w17, w18, w19, w20, w21, w22, w23, w24, w25, w26, w27, w28, w29, w30, w31, w32, w33, w34, w35, w36, w37, w38, w39, w40, w41, w42]))] := hD
  refine lv_if_eq (tgt := 191) hx hb dX10_addClip_178 (by decide) (fun _ => ?_) (fun h => absurd (by decide) h)
  refine lv_aload_n hx hb dX10_addClip_191 rfl (lv_at hl 2 rfl) ?_
  refine g_v (wr := [(q57, .inl (g.2 0, 8, .inl f55)), (q56, .inl (g.2 0, 8, .inl f55)), (q51, .inl (g.2 0, 497, .inl (upd (upd (upd (upd (upd (upd f52 393 x2) 394 4) 395 x3) 396 x4) 397 x5) 392 1)))]) (rV (rest := []) hx hb hml hown hE hP hD 5 rfl rfl (c220_X10_keep l g q1 q74 q54 (.ref q51) w7 w9 (.int 0) (.ref q56) (.ref q57) w15 w16 w17 w18 w19 w20 w21 w22 w23 w24 w25 w26 w27 w28 w29 w30 w31 w32 w33 w34 w35 w36 w37 w38 w39 w40 w41 w42 (cpF 497 f52 f55) f55 H.size) (kV_X10_keep hE (e1478 hE) rfl rfl ⟨(Nat.le_of_ble_eq_true rfl), (Nat.le_of_ble_eq_true rfl)⟩) [0, 1, 5] rfl (by decide) rfl hl.1 rfl (lv_room (Nat.le_of_ble_eq_true rfl)) dX10_addClip_192 ⟨(Nat.le_of_ble_eq_true rfl), (Nat.le_of_ble_eq_true rfl)⟩) hP hD hS hA [0, 1, 5] [2, 3, 4] rfl rfl (by decide) (by decide) (fun u8 H locs hP hD hS => ?_)
  have hP : va_P g.1 vwCl [(q57, .inl (g.2 0, 8, .inl f55)), (q56, .inl (g.2 0, 8, .inl f55)), (q51, .inl (g.2 0, 497, .inl (upd (upd (upd (upd (upd (upd f52 393 x2) 394 4) 395 x3) 396 x4) 397 x5) 392 1))), (q74, .inl (g.2 0, 3976, .inl (cpF 497 (cpF 497 f52 f55) f55))), (q54, .inl (g.2 0, 497, .inl (cpF 497 f52 f55))), (q1, .inr (12, [.ref q51, w7, .ref q54, w9, .ref q74, .int 1, .int 0, .ref q56, .ref q57, w15, w16, w17, w18, w19, w20, w21, w22, w23, w24, w25, w26, w27, w28, w29, w30, w31, w32, w33, w34, w35, w36, w37, w38, w39, w40, w41, w42]))] H := hP
  have hD : va_D A [(q57, .inl (g.2 0, 8, .inl f55)), (q56, .inl (g.2 0, 8, .inl f55)), (q51, .inl (g.2 0, 497, .inl (upd (upd (upd (upd (upd (upd f52 393 x2) 394 4) 395 x3) 396 x4) 397 x5) 392 1))), (q74, .inl (g.2 0, 3976, .inl (cpF 497 (cpF 497 f52 f55) f55))), (q54, .inl (g.2 0, 497, .inl (cpF 497 f52 f55))), (q1, .inr (12, [.ref q51, w7, .ref q54, w9, .ref q74, .int 1, .int 0, .ref q56, .ref q57, w15, w16, w17, w18, w19, w20, w21, w22, w23, w24, w25, w26, w27, w28, w29, w30, w31, w32, w33, w34, w35, w36, w37, w38, w39, w40, w41, w42]))] := hD
  refine lv_aload_n hx hb dX10_addClip_195 rfl (lv_at hl 2 rfl) ?_
  refine gf_RX10_9 hx hb hown hE hP 5 rfl rfl dX10_addClip_196 ?_
  refine lv_sipush (v := 392) hx hb dX10_addClip_199 (by decide) ?_
  refine x_iald (v := 1) hx hb hE hP 2 rfl 392 (x_in (by decide)) (by decide) pk_us dX10_addClip_202 ?_
  refine lv_iconst (v := 1) hx hb dX10_addClip_203 (by decide) ?_
  refine x_isub (v := 0) hx hb dX10_addClip_204 (by decide) ?_
  exact x_zret hx hb hr rfl rfl hlocks hP hD hS hAe hsz (Nat.le_of_ble_eq_true rfl) (Nat.le_of_ble_eq_true rfl) (fun _ => 0) [5] (by decide) rfl dX10_addClip_205

set_option maxHeartbeats 4000000 in
set_option maxRecDepth 100000 in
theorem c1552_X6_clipLength (l : Launch) (g : gG) (q1 q9 q13 q17 : Nat) (x12 : Int32) (w3 w5 w6 w7 w8 w15 : Value) (f10 : Nat → Int32) (f18 : Nat → Int32) (hf11 : f10 2 = x12) (hf14 : f10 1 = 5) (hf19 : f18 26 = 0) (sz : Nat) : Met l yX6_clipLength [Cond.code yX6_clipLength cX6_clipLength 2 (some .int)] ({ frames := 1, cells := 0, slots := 0, locals := 23 } : Room) (va_Pc [.ref q1, .int 0] (PX g sz [(q17, .inl (g.2 0, 40, .inl f18)), (q13, .inr (5, [w15, .ref q17])), (q9, .inl (g.2 0, 60, .inl f10)), (q1, .inr (8, [.ref q13, w3, .ref q9, w5, w6, w7, w8]))])) (QI g [(q17, .inl (g.2 0, 40, .inl f18)), (q13, .inr (5, [w15, .ref q17])), (q9, .inl (g.2 0, 60, .inl f10)), (q1, .inr (8, [.ref q13, w3, .ref q9, w5, w6, w7, w8]))] sz 0 (fun _ => [(q9, .inl (g.2 0, 60, .inl f10)), (q1, .inr (8, [.ref q13, w3, .ref q9, w5, w6, w7, w8])), (q17, .inl (g.2 0, 40, .inl f18)), (q13, .inr (5, [w15, .ref q17]))])) 0 0 (va_A [(q17, .inl (g.2 0, 40, .inl f18)), (q13, .inr (5, [w15, .ref q17])), (q9, .inl (g.2 0, 60, .inl f10)), (q1, .inr (8, [.ref q13, w3, .ref q9, w5, w6, w7, w8]))] sz) := by
  refine ofN (by decide) (Nat.le_of_ble_eq_true rfl) rfl ?_
  intro p e s m args below meth c A ls hAe hsz hx hb hml hr hlocks hin hown hE hP hD hA hS hl
  have hown : s.vm.findClass RX6 = some m.cls := hown
  refine lv_aload_n hx hb dX6_clipLength_0 rfl (lv_at hl 0 rfl) ?_
  refine lv_iload_n hx hb dX6_clipLength_1 rfl (lv_at hl 1 rfl) ?_
  refine lv_iconst (v := 2) hx hb dX6_clipLength_2 (by decide) ?_
  refine g_i (wr := [(q17, .inl (g.2 0, 40, .inl f18)), (q13, .inr (5, [w15, .ref q17]))]) (rV (rest := []) hx hb hml hown hE hP hD 3 rfl rfl (c1503_X6_clipNumber l g q1 q9 x12 (.ref q13) w3 w5 w6 w7 w8 f10 (hf11) s.heap.size) (kV_X6_clipNumber hE (e711 hE) rfl rfl ⟨(Nat.le_of_ble_eq_true rfl), (Nat.le_of_ble_eq_true rfl)⟩) [2, 3] rfl (by decide) rfl hl.1 rfl (lv_room (Nat.le_of_ble_eq_true rfl)) dX6_clipLength_3 ⟨(Nat.le_of_ble_eq_true rfl), (Nat.le_of_ble_eq_true rfl)⟩) hP hD hS hA [2, 3] [0, 1] rfl rfl (by decide) (by decide) (fun u1 H locs hP hD hS => ?_)
  have hP : va_P g.1 vwCl [(q17, .inl (g.2 0, 40, .inl f18)), (q13, .inr (5, [w15, .ref q17])), (q9, .inl (g.2 0, 60, .inl f10)), (q1, .inr (8, [.ref q13, w3, .ref q9, w5, w6, w7, w8]))] H := hP
  have hD : va_D A [(q17, .inl (g.2 0, 40, .inl f18)), (q13, .inr (5, [w15, .ref q17])), (q9, .inl (g.2 0, 60, .inl f10)), (q1, .inr (8, [.ref q13, w3, .ref q9, w5, w6, w7, w8]))] := hD
  refine lv_aload_n hx hb dX6_clipLength_6 rfl (lv_at hl 0 rfl) ?_
  refine gf_RX6_12 hx hb hown hE hP 3 rfl rfl dX6_clipLength_7 ?_
  refine lv_aload_n hx hb dX6_clipLength_10 rfl (lv_at hl 0 rfl) ?_
  refine lv_iload_n hx hb dX6_clipLength_11 rfl (lv_at hl 1 rfl) ?_
  refine lv_iconst (v := 1) hx hb dX6_clipLength_12 (by decide) ?_
  refine g_i (wr := [(q17, .inl (g.2 0, 40, .inl f18)), (q13, .inr (5, [w15, .ref q17]))]) (rV (rest := [.ref q13, .int x12]) hx hb hml hown hE hP hD 3 rfl rfl (c1504_X6_clipNumber l g q1 q9 5 (.ref q13) w3 w5 w6 w7 w8 f10 (hf14) H.size) (kV_X6_clipNumber hE (e711 hE) rfl rfl ⟨(Nat.le_of_ble_eq_true rfl), (Nat.le_of_ble_eq_true rfl)⟩) [2, 3] rfl (by decide) rfl hl.1 rfl (lv_room (Nat.le_of_ble_eq_true rfl)) dX6_clipLength_13 ⟨(Nat.le_of_ble_eq_true rfl), (Nat.le_of_ble_eq_true rfl)⟩) hP hD hS hA [2, 3] [0, 1] rfl rfl (by decide) (by decide) (fun u2 H locs hP hD hS => ?_)
  have hP : va_P g.1 vwCl [(q17, .inl (g.2 0, 40, .inl f18)), (q13, .inr (5, [w15, .ref q17])), (q9, .inl (g.2 0, 60, .inl f10)), (q1, .inr (8, [.ref q13, w3, .ref q9, w5, w6, w7, w8]))] H := hP
  have hD : va_D A [(q17, .inl (g.2 0, 40, .inl f18)), (q13, .inr (5, [w15, .ref q17])), (q9, .inl (g.2 0, 60, .inl f10)), (q1, .inr (8, [.ref q13, w3, .ref q9, w5, w6, w7, w8]))] := hD
  refine lv_iconst (v := 1) hx hb dX6_clipLength_16 (by decide) ?_
  refine g_i (wr := [(q9, .inl (g.2 0, 60, .inl f10)), (q1, .inr (8, [.ref q13, w3, .ref q9, w5, w6, w7, w8]))]) (rV (rest := [.int x12]) hx hb hml hown hE hP hD 1 rfl rfl (c175_X3_figure l g q13 q17 w15 f18 (hf19) H.size) (kV_X3_figure hE (e712 hE) rfl rfl ⟨(Nat.le_of_ble_eq_true rfl), (Nat.le_of_ble_eq_true rfl)⟩) [0, 1] rfl (by decide) rfl hl.1 rfl (lv_room (Nat.le_of_ble_eq_true rfl)) dX6_clipLength_17 ⟨(Nat.le_of_ble_eq_true rfl), (Nat.le_of_ble_eq_true rfl)⟩) hP hD hS hA [0, 1] [2, 3] rfl rfl (by decide) (by decide) (fun u3 H locs hP hD hS => ?_)
  have hP : va_P g.1 vwCl [(q9, .inl (g.2 0, 60, .inl f10)), (q1, .inr (8, [.ref q13, w3, .ref q9, w5, w6, w7, w8])), (q17, .inl (g.2 0, 40, .inl f18)), (q13, .inr (5, [w15, .ref q17]))] H := hP
  have hD : va_D A [(q9, .inl (g.2 0, 60, .inl f10)), (q1, .inr (8, [.ref q13, w3, .ref q9, w5, w6, w7, w8])), (q17, .inl (g.2 0, 40, .inl f18)), (q13, .inr (5, [w15, .ref q17]))] := hD
  refine x_imul (v := 0) hx hb dX6_clipLength_20 (Int32.mul_zero) ?_
  exact x_zret hx hb hr rfl rfl hlocks hP hD hS hAe hsz (Nat.le_of_ble_eq_true rfl) (Nat.le_of_ble_eq_true rfl) (fun _ => 0) [0, 1, 2, 3] (by decide) rfl dX6_clipLength_21

set_option maxHeartbeats 4000000 in
set_option maxRecDepth 100000 in
theorem c1553_X6_clipNotes (l : Launch) (g : gG) (q1 q9 q13 q17 : Nat) (x12 : Int32) (w3 w5 w6 w7 w8 w15 : Value) (f10 : Nat → Int32) (f18 : Nat → Int32) (hf11 : f10 2 = x12) (hf14 : f10 1 = 5) (hf19 : f18 27 = 0) (sz : Nat) : Met l yX6_clipNotes [Cond.code yX6_clipNotes cX6_clipNotes 2 (some .int)] ({ frames := 1, cells := 0, slots := 0, locals := 23 } : Room) (va_Pc [.ref q1, .int 0] (PX g sz [(q17, .inl (g.2 0, 40, .inl f18)), (q13, .inr (5, [w15, .ref q17])), (q9, .inl (g.2 0, 60, .inl f10)), (q1, .inr (8, [.ref q13, w3, .ref q9, w5, w6, w7, w8]))])) (QI g [(q17, .inl (g.2 0, 40, .inl f18)), (q13, .inr (5, [w15, .ref q17])), (q9, .inl (g.2 0, 60, .inl f10)), (q1, .inr (8, [.ref q13, w3, .ref q9, w5, w6, w7, w8]))] sz 0 (fun _ => [(q9, .inl (g.2 0, 60, .inl f10)), (q1, .inr (8, [.ref q13, w3, .ref q9, w5, w6, w7, w8])), (q17, .inl (g.2 0, 40, .inl f18)), (q13, .inr (5, [w15, .ref q17]))])) 0 0 (va_A [(q17, .inl (g.2 0, 40, .inl f18)), (q13, .inr (5, [w15, .ref q17])), (q9, .inl (g.2 0, 60, .inl f10)), (q1, .inr (8, [.ref q13, w3, .ref q9, w5, w6, w7, w8]))] sz) := by
  refine ofN (by decide) (Nat.le_of_ble_eq_true rfl) rfl ?_
  intro p e s m args below meth c A ls hAe hsz hx hb hml hr hlocks hin hown hE hP hD hA hS hl
  have hown : s.vm.findClass RX6 = some m.cls := hown
  refine lv_aload_n hx hb dX6_clipNotes_0 rfl (lv_at hl 0 rfl) ?_
  refine lv_iload_n hx hb dX6_clipNotes_1 rfl (lv_at hl 1 rfl) ?_
  refine lv_iconst (v := 2) hx hb dX6_clipNotes_2 (by decide) ?_
  refine g_i (wr := [(q17, .inl (g.2 0, 40, .inl f18)), (q13, .inr (5, [w15, .ref q17]))]) (rV (rest := []) hx hb hml hown hE hP hD 3 rfl rfl (c1503_X6_clipNumber l g q1 q9 x12 (.ref q13) w3 w5 w6 w7 w8 f10 (hf11) s.heap.size) (kV_X6_clipNumber hE (e711 hE) rfl rfl ⟨(Nat.le_of_ble_eq_true rfl), (Nat.le_of_ble_eq_true rfl)⟩) [2, 3] rfl (by decide) rfl hl.1 rfl (lv_room (Nat.le_of_ble_eq_true rfl)) dX6_clipNotes_3 ⟨(Nat.le_of_ble_eq_true rfl), (Nat.le_of_ble_eq_true rfl)⟩) hP hD hS hA [2, 3] [0, 1] rfl rfl (by decide) (by decide) (fun u1 H locs hP hD hS => ?_)
  have hP : va_P g.1 vwCl [(q17, .inl (g.2 0, 40, .inl f18)), (q13, .inr (5, [w15, .ref q17])), (q9, .inl (g.2 0, 60, .inl f10)), (q1, .inr (8, [.ref q13, w3, .ref q9, w5, w6, w7, w8]))] H := hP
  have hD : va_D A [(q17, .inl (g.2 0, 40, .inl f18)), (q13, .inr (5, [w15, .ref q17])), (q9, .inl (g.2 0, 60, .inl f10)), (q1, .inr (8, [.ref q13, w3, .ref q9, w5, w6, w7, w8]))] := hD
  refine lv_aload_n hx hb dX6_clipNotes_6 rfl (lv_at hl 0 rfl) ?_
  refine gf_RX6_12 hx hb hown hE hP 3 rfl rfl dX6_clipNotes_7 ?_
  refine lv_aload_n hx hb dX6_clipNotes_10 rfl (lv_at hl 0 rfl) ?_
  refine lv_iload_n hx hb dX6_clipNotes_11 rfl (lv_at hl 1 rfl) ?_
  refine lv_iconst (v := 1) hx hb dX6_clipNotes_12 (by decide) ?_
  refine g_i (wr := [(q17, .inl (g.2 0, 40, .inl f18)), (q13, .inr (5, [w15, .ref q17]))]) (rV (rest := [.ref q13, .int x12]) hx hb hml hown hE hP hD 3 rfl rfl (c1504_X6_clipNumber l g q1 q9 5 (.ref q13) w3 w5 w6 w7 w8 f10 (hf14) H.size) (kV_X6_clipNumber hE (e711 hE) rfl rfl ⟨(Nat.le_of_ble_eq_true rfl), (Nat.le_of_ble_eq_true rfl)⟩) [2, 3] rfl (by decide) rfl hl.1 rfl (lv_room (Nat.le_of_ble_eq_true rfl)) dX6_clipNotes_13 ⟨(Nat.le_of_ble_eq_true rfl), (Nat.le_of_ble_eq_true rfl)⟩) hP hD hS hA [2, 3] [0, 1] rfl rfl (by decide) (by decide) (fun u2 H locs hP hD hS => ?_)
  have hP : va_P g.1 vwCl [(q17, .inl (g.2 0, 40, .inl f18)), (q13, .inr (5, [w15, .ref q17])), (q9, .inl (g.2 0, 60, .inl f10)), (q1, .inr (8, [.ref q13, w3, .ref q9, w5, w6, w7, w8]))] H := hP
  have hD : va_D A [(q17, .inl (g.2 0, 40, .inl f18)), (q13, .inr (5, [w15, .ref q17])), (q9, .inl (g.2 0, 60, .inl f10)), (q1, .inr (8, [.ref q13, w3, .ref q9, w5, w6, w7, w8]))] := hD
  refine lv_iconst (v := 2) hx hb dX6_clipNotes_16 (by decide) ?_
  refine g_i (wr := [(q9, .inl (g.2 0, 60, .inl f10)), (q1, .inr (8, [.ref q13, w3, .ref q9, w5, w6, w7, w8]))]) (rV (rest := [.int x12]) hx hb hml hown hE hP hD 1 rfl rfl (c1035_X3_figure l g q13 q17 w15 f18 (hf19) H.size) (kV_X3_figure hE (e712 hE) rfl rfl ⟨(Nat.le_of_ble_eq_true rfl), (Nat.le_of_ble_eq_true rfl)⟩) [0, 1] rfl (by decide) rfl hl.1 rfl (lv_room (Nat.le_of_ble_eq_true rfl)) dX6_clipNotes_17 ⟨(Nat.le_of_ble_eq_true rfl), (Nat.le_of_ble_eq_true rfl)⟩) hP hD hS hA [0, 1] [2, 3] rfl rfl (by decide) (by decide) (fun u3 H locs hP hD hS => ?_)
  have hP : va_P g.1 vwCl [(q9, .inl (g.2 0, 60, .inl f10)), (q1, .inr (8, [.ref q13, w3, .ref q9, w5, w6, w7, w8])), (q17, .inl (g.2 0, 40, .inl f18)), (q13, .inr (5, [w15, .ref q17]))] H := hP
  have hD : va_D A [(q9, .inl (g.2 0, 60, .inl f10)), (q1, .inr (8, [.ref q13, w3, .ref q9, w5, w6, w7, w8])), (q17, .inl (g.2 0, 40, .inl f18)), (q13, .inr (5, [w15, .ref q17]))] := hD
  refine x_imul (v := 0) hx hb dX6_clipNotes_20 (Int32.mul_zero) ?_
  exact x_zret hx hb hr rfl rfl hlocks hP hD hS hAe hsz (Nat.le_of_ble_eq_true rfl) (Nat.le_of_ble_eq_true rfl) (fun _ => 0) [0, 1, 2, 3] (by decide) rfl dX6_clipNotes_21

set_option maxHeartbeats 4000000 in
set_option maxRecDepth 100000 in
theorem c1554_X6_hasFittingClips (l : Launch) (g : gG) (q1 q9 q10 q17 : Nat) (x13 : Int32) (w3 w5 w7 w8 w15 : Value) (f11 : Nat → Int32) (f18 : Nat → Int32) (hf12 : f11 2 = x13) (hf14 : f11 1 = 5) (hf19 : f18 26 = 0) (hf20 : f18 27 = 0) (sz : Nat) : Met l yX6_hasFittingClips [Cond.code yX6_hasFittingClips cX6_hasFittingClips 3 (some .boolean)] ({ frames := 2, cells := 0, slots := 0, locals := 44 } : Room) (va_Pc [.ref q1] (PX g sz [(q17, .inl (g.2 0, 40, .inl f18)), (q9, .inr (5, [w15, .ref q17])), (q10, .inl (g.2 0, 60, .inl f11)), (q1, .inr (8, [.ref q9, w3, .ref q10, w5, .int 1, w7, w8]))])) (QI g [(q17, .inl (g.2 0, 40, .inl f18)), (q9, .inr (5, [w15, .ref q17])), (q10, .inl (g.2 0, 60, .inl f11)), (q1, .inr (8, [.ref q9, w3, .ref q10, w5, .int 1, w7, w8]))] sz 1 (fun _ => [(q10, .inl (g.2 0, 60, .inl f11)), (q1, .inr (8, [.ref q9, w3, .ref q10, w5, .int 1, w7, w8])), (q17, .inl (g.2 0, 40, .inl f18)), (q9, .inr (5, [w15, .ref q17]))])) 0 0 (va_A [(q17, .inl (g.2 0, 40, .inl f18)), (q9, .inr (5, [w15, .ref q17])), (q10, .inl (g.2 0, 60, .inl f11)), (q1, .inr (8, [.ref q9, w3, .ref q10, w5, .int 1, w7, w8]))] sz) := by
  refine ofN (by decide) (Nat.le_of_ble_eq_true rfl) rfl ?_
  intro p e s m args below meth c A ls hAe hsz hx hb hml hr hlocks hin hown hE hP hD hA hS hl
  have hown : s.vm.findClass RX6 = some m.cls := hown
  refine lv_iconst (v := 0) hx hb dX6_hasFittingClips_0 (by decide) ?_
  refine lv_istore_n (lv' := [(1, .int 0), (0, .ref q1)]) hx hb dX6_hasFittingClips_1 rfl hl (by decide) rfl (fun ls hl => ?_)
  refine lv_iconst (v := 0) hx hb dX6_hasFittingClips_2 (by decide) ?_
  refine lv_istore_n (lv' := [(2, .int 0), (1, .int 0), (0, .ref q1)]) hx hb dX6_hasFittingClips_3 rfl hl (by decide) rfl (fun ls hl => ?_)
  refine lv_iload_n hx hb dX6_hasFittingClips_4 rfl (lv_at hl 0 rfl) ?_
  refine lv_aload_n hx hb dX6_hasFittingClips_5 rfl (lv_at hl 2 rfl) ?_
  refine gf_RX6_37 hx hb hown hE hP 3 rfl rfl dX6_hasFittingClips_6 ?_
  refine lv_icmp_ge (tgt := 39) hx hb dX6_hasFittingClips_9 (by decide) (fun h => absurd h (by decide)) (fun _ => ?_)
  refine lv_aload_n hx hb dX6_hasFittingClips_12 rfl (lv_at hl 2 rfl) ?_
  refine lv_iload_n hx hb dX6_hasFittingClips_13 rfl (lv_at hl 0 rfl) ?_
  refine g_i (wr := []) (rV (rest := []) hx hb hml hown hE hP hD 3 rfl rfl (c1552_X6_clipLength l g q1 q10 q9 q17 x13 w3 w5 (.int 1) w7 w8 w15 f11 f18 (hf12) (hf14) (hf19) s.heap.size) (kV_X6_clipLength hE (e707 hE) rfl rfl ⟨(Nat.le_of_ble_eq_true rfl), (Nat.le_of_ble_eq_true rfl)⟩) [0, 1, 2, 3] rfl (by decide) rfl hl.1 rfl (lv_room (Nat.le_of_ble_eq_true rfl)) dX6_hasFittingClips_14 ⟨(Nat.le_of_ble_eq_true rfl), (Nat.le_of_ble_eq_true rfl)⟩) hP hD hS hA [0, 1, 2, 3] [] rfl rfl (by decide) (by decide) (fun u1 H locs hP hD hS => ?_)
  have hP : va_P g.1 vwCl [(q10, .inl (g.2 0, 60, .inl f11)), (q1, .inr (8, [.ref q9, w3, .ref q10, w5, .int 1, w7, w8])), (q17, .inl (g.2 0, 40, .inl f18)), (q9, .inr (5, [w15, .ref q17]))] H := hP
  have hD : va_D A [(q10, .inl (g.2 0, 60, .inl f11)), (q1, .inr (8, [.ref q9, w3, .ref q10, w5, .int 1, w7, w8])), (q17, .inl (g.2 0, 40, .inl f18)), (q9, .inr (5, [w15, .ref q17]))] := hD
  refine lv_sipush (v := 20000) hx hb dX6_hasFittingClips_17 (by decide) ?_
  refine lv_icmp_le (tgt := 25) hx hb dX6_hasFittingClips_20 (by decide) (fun _ => ?_) (fun h => absurd (by decide) h)
  refine lv_iload_n hx hb dX6_hasFittingClips_25 rfl (lv_at hl 1 rfl) ?_
  refine lv_aload_n hx hb dX6_hasFittingClips_26 rfl (lv_at hl 2 rfl) ?_
  refine lv_iload_n hx hb dX6_hasFittingClips_27 rfl (lv_at hl 0 rfl) ?_
  refine g_i (wr := []) (rV (rest := [.int 0]) hx hb hml hown hE hP hD 1 rfl rfl (c1553_X6_clipNotes l g q1 q10 q9 q17 x13 w3 w5 (.int 1) w7 w8 w15 f11 f18 (hf12) (hf14) (hf20) H.size) (kV_X6_clipNotes hE (e713 hE) rfl rfl ⟨(Nat.le_of_ble_eq_true rfl), (Nat.le_of_ble_eq_true rfl)⟩) [2, 3, 0, 1] rfl (by decide) rfl hl.1 rfl (lv_room (Nat.le_of_ble_eq_true rfl)) dX6_hasFittingClips_28 ⟨(Nat.le_of_ble_eq_true rfl), (Nat.le_of_ble_eq_true rfl)⟩) hP hD hS hA [2, 3, 0, 1] [] rfl rfl (by decide) (by decide) (fun u2 H locs hP hD hS => ?_)
  have hP : va_P g.1 vwCl [(q10, .inl (g.2 0, 60, .inl f11)), (q1, .inr (8, [.ref q9, w3, .ref q10, w5, .int 1, w7, w8])), (q17, .inl (g.2 0, 40, .inl f18)), (q9, .inr (5, [w15, .ref q17]))] H := hP
  have hD : va_D A [(q10, .inl (g.2 0, 60, .inl f11)), (q1, .inr (8, [.ref q9, w3, .ref q10, w5, .int 1, w7, w8])), (q17, .inl (g.2 0, 40, .inl f18)), (q9, .inr (5, [w15, .ref q17]))] := hD
  refine x_iadd (v := 0) hx hb dX6_hasFittingClips_31 (by decide) ?_
  refine lv_istore_n (lv' := [(1, .int 0), (2, .int 0), (0, .ref q1)]) hx hb dX6_hasFittingClips_32 rfl hl (by decide) rfl (fun ls hl => ?_)
  refine lv_iinc (v := 1) (lv' := [(2, .int 1), (1, .int 0), (0, .ref q1)]) hx hb dX6_hasFittingClips_33 hl (k := 1) rfl (by decide) (by decide) rfl (fun ls hl => ?_)
  refine lv_goto (tgt := 4) hx hb dX6_hasFittingClips_36 (by decide) ?_
  refine lv_iload_n hx hb dX6_hasFittingClips_4 rfl (lv_at hl 0 rfl) ?_
  refine lv_aload_n hx hb dX6_hasFittingClips_5 rfl (lv_at hl 2 rfl) ?_
  refine gf_RX6_37 hx hb hown hE hP 1 rfl rfl dX6_hasFittingClips_6 ?_
  refine lv_icmp_ge (tgt := 39) hx hb dX6_hasFittingClips_9 (by decide) (fun _ => ?_) (fun h => absurd (by decide) h)
  refine lv_iload_n hx hb dX6_hasFittingClips_39 rfl (lv_at hl 1 rfl) ?_
  refine lv_sipush (v := 300) hx hb dX6_hasFittingClips_40 (by decide) ?_
  refine lv_icmp_gt (tgt := 50) hx hb dX6_hasFittingClips_43 (by decide) (fun h => absurd h (by decide)) (fun _ => ?_)
  refine lv_iconst (v := 1) hx hb dX6_hasFittingClips_46 (by decide) ?_
  refine lv_goto (tgt := 51) hx hb dX6_hasFittingClips_47 (by decide) ?_
  exact x_zret hx hb hr rfl rfl hlocks hP hD hS hAe hsz (Nat.le_of_ble_eq_true rfl) (Nat.le_of_ble_eq_true rfl) (fun _ => 0) [0, 1, 2, 3] (by decide) rfl dX6_hasFittingClips_51

set_option maxHeartbeats 4000000 in
set_option maxRecDepth 100000 in
theorem c1555_X9_acceptIfFitting (l : Launch) (g : gG) (q1 q2 q10 q13 q14 q47 q63 : Nat) (x50 : Int32) (w4 w6 w8 w9 w53 w54 w55 w56 w57 w58 w59 w60 w61 w62 w64 : Value) (f15 : Nat → Int32) (f48 : Nat → Int32) (hf16 : f15 0 = 0) (hf17 : f15 2 = 0) (hf18 : f15 3 = 0) (hf19 : f15 5 = 0) (hf20 : f15 6 = 0) (hf21 : f15 7 = 0) (hf22 : f15 8 = 0) (hf23 : f15 10 = 0) (hf24 : f15 11 = 0) (hf25 : f15 12 = 0) (hf26 : f15 13 = 0) (hf27 : f15 15 = 0) (hf28 : f15 16 = 0) (hf29 : f15 17 = 0) (hf30 : f15 18 = 0) (hf31 : f15 20 = 0) (hf32 : f15 21 = 0) (hf33 : f15 22 = 0) (hf34 : f15 23 = 0) (hf35 : f15 25 = 0) (hf36 : f15 26 = 0) (hf37 : f15 27 = 0) (hf38 : f15 28 = 0) (hf39 : f15 30 = 0) (hf40 : f15 31 = 0) (hf41 : f15 32 = 0) (hf42 : f15 33 = 0) (hf43 : f15 35 = 0) (hf44 : f15 36 = 0) (hf45 : f15 37 = 0) (hf46 : f15 38 = 0) (hf49 : f48 2 = x50) (hf51 : f48 1 = 5) (sz : Nat) : Met l yX9_acceptIfFitting [Cond.code yX9_acceptIfFitting cX9_acceptIfFitting 2 none] ({ frames := 3, cells := 0, slots := 0, locals := 73 } : Room) (va_Pc [.ref q1, .ref q2] (PX g sz [(q63, .inr (10, [w64, .int 0, .int 0])), (q1, .inr (11, [.ref q63, w53, w54, w55, w56, w57, w58, w59, w60, w61, w62])), (q47, .inl (g.2 0, 60, .inl f48)), (q14, .inl (g.2 0, 40, .inl f15)), (q10, .inr (5, [.ref q13, .ref q14])), (q2, .inr (8, [.ref q10, w4, .ref q47, w6, .int 1, w8, w9]))])) (QV g [(q63, .inr (10, [w64, .int 0, .int 0])), (q1, .inr (11, [.ref q63, w53, w54, w55, w56, w57, w58, w59, w60, w61, w62])), (q47, .inl (g.2 0, 60, .inl f48)), (q14, .inl (g.2 0, 40, .inl f15)), (q10, .inr (5, [.ref q13, .ref q14])), (q2, .inr (8, [.ref q10, w4, .ref q47, w6, .int 1, w8, w9]))] sz (fun _ => [(q47, .inl (g.2 0, 60, .inl f48)), (q2, .inr (8, [.ref q10, w4, .ref q47, w6, .int 1, w8, w9])), (q14, .inl (g.2 0, 40, .inl (upd (upd (upd (upd (upd (upd (upd (upd (upd f15 1 0) 4 1) 9 1) 14 1) 19 1) 24 1) 29 1) 34 1) 39 1))), (q10, .inr (5, [.ref q13, .ref q14])), (q63, .inr (10, [w64, .int 1, .int 1])), (q1, .inr (11, [.ref q63, w53, w54, w55, w56, w57, w58, w59, .int 0, .int 0, w62]))])) 0 0 (va_A [(q63, .inr (10, [w64, .int 0, .int 0])), (q1, .inr (11, [.ref q63, w53, w54, w55, w56, w57, w58, w59, w60, w61, w62])), (q47, .inl (g.2 0, 60, .inl f48)), (q14, .inl (g.2 0, 40, .inl f15)), (q10, .inr (5, [.ref q13, .ref q14])), (q2, .inr (8, [.ref q10, w4, .ref q47, w6, .int 1, w8, w9]))] sz) := by
  refine ofN (by decide) (Nat.le_of_ble_eq_true rfl) rfl ?_
  intro p e s m args below meth c A ls hAe hsz hx hb hml hr hlocks hin hown hE hP hD hA hS hl
  have hown : s.vm.findClass RX9 = some m.cls := hown
  refine lv_aload_n hx hb dX9_acceptIfFitting_0 rfl (lv_at hl 1 rfl) ?_
  refine gf_RX9_108 hx hb hown hE hP 5 rfl rfl dX9_acceptIfFitting_1 ?_
  refine g_i (wr := [(q63, .inr (10, [w64, .int 0, .int 0])), (q1, .inr (11, [.ref q63, w53, w54, w55, w56, w57, w58, w59, w60, w61, w62])), (q47, .inl (g.2 0, 60, .inl f48)), (q2, .inr (8, [.ref q10, w4, .ref q47, w6, .int 1, w8, w9]))]) (rV (rest := []) hx hb hml hown hE hP hD 4 rfl rfl (c1502_X3_measure l g q10 q13 q14 f15 (hf16) (hf17) (hf18) (hf19) (hf20) (hf21) (hf22) (hf23) (hf24) (hf25) (hf26) (hf27) (hf28) (hf29) (hf30) (hf31) (hf32) (hf33) (hf34) (hf35) (hf36) (hf37) (hf38) (hf39) (hf40) (hf41) (hf42) (hf43) (hf44) (hf45) (hf46) s.heap.size) (kV_X3_measure hE (e694 hE) rfl rfl ⟨(Nat.le_of_ble_eq_true rfl), (Nat.le_of_ble_eq_true rfl)⟩) [3, 4] rfl (by decide) rfl hl.1 rfl (lv_room (Nat.le_of_ble_eq_true rfl)) dX9_acceptIfFitting_4 ⟨(Nat.le_of_ble_eq_true rfl), (Nat.le_of_ble_eq_true rfl)⟩) hP hD hS hA [3, 4] [0, 1, 2, 5] rfl rfl (by decide) (by decide) (fun u1 H locs hP hD hS => ?_)
  have hP : va_P g.1 vwCl [(q63, .inr (10, [w64, .int 0, .int 0])), (q1, .inr (11, [.ref q63, w53, w54, w55, w56, w57, w58, w59, w60, w61, w62])), (q47, .inl (g.2 0, 60, .inl f48)), (q2, .inr (8, [.ref q10, w4, .ref q47, w6, .int 1, w8, w9])), (q14, .inl (g.2 0, 40, .inl (upd (upd (upd (upd (upd (upd (upd (upd (upd f15 1 0) 4 1) 9 1) 14 1) 19 1) 24 1) 29 1) 34 1) 39 1))), (q10, .inr (5, [.ref q13, .ref q14]))] H := hP
  have hD : va_D A [(q63, .inr (10, [w64, .int 0, .int 0])), (q1, .inr (11, [.ref q63, w53, w54, w55, w56, w57, w58, w59, w60, w61, w62])), (q47, .inl (g.2 0, 60, .inl f48)), (q2, .inr (8, [.ref q10, w4, .ref q47, w6, .int 1, w8, w9])), (q14, .inl (g.2 0, 40, .inl (upd (upd (upd (upd (upd (upd (upd (upd (upd f15 1 0) 4 1) 9 1) 14 1) 19 1) 24 1) 29 1) 34 1) 39 1))), (q10, .inr (5, [.ref q13, .ref q14]))] := hD
  refine lv_if_eq (tgt := 17) hx hb dX9_acceptIfFitting_7 (by decide) (fun h => absurd h (by decide)) (fun _ => ?_)
  refine lv_aload_n hx hb dX9_acceptIfFitting_10 rfl (lv_at hl 1 rfl) ?_
  refine g_i (wr := [(q63, .inr (10, [w64, .int 0, .int 0])), (q1, .inr (11, [.ref q63, w53, w54, w55, w56, w57, w58, w59, w60, w61, w62]))]) (rV (rest := []) hx hb hml hown hE hP hD 3 rfl rfl (c1554_X6_hasFittingClips l g q2 q10 q47 q14 x50 w4 w6 w8 w9 (.ref q13) f48 (upd (upd (upd (upd (upd (upd (upd (upd (upd f15 1 0) 4 1) 9 1) 14 1) 19 1) 24 1) 29 1) 34 1) 39 1) (hf49) (hf51) (((pk_un (by decide)).trans ((pk_un (by decide)).trans ((pk_un (by decide)).trans ((pk_un (by decide)).trans ((pk_un (by decide)).trans ((pk_un (by decide)).trans ((pk_un (by decide)).trans ((pk_un (by decide)).trans ((pk_un (by decide)).trans hf36)))))))))) (((pk_un (by decide)).trans ((pk_un (by decide)).trans ((pk_un (by decide)).trans ((pk_un (by decide)).trans ((pk_un (by decide)).trans ((pk_un (by decide)).trans ((pk_un (by decide)).trans ((pk_un (by decide)).trans ((pk_un (by decide)).trans hf37)))))))))) H.size) (kV_X6_hasFittingClips hE (e703 hE) rfl rfl ⟨(Nat.le_of_ble_eq_true rfl), (Nat.le_of_ble_eq_true rfl)⟩) [4, 5, 2, 3] rfl (by decide) rfl hl.1 rfl (lv_room (Nat.le_of_ble_eq_true rfl)) dX9_acceptIfFitting_11 ⟨(Nat.le_of_ble_eq_true rfl), (Nat.le_of_ble_eq_true rfl)⟩) hP hD hS hA [4, 5, 2, 3] [0, 1] rfl rfl (by decide) (by decide) (fun u2 H locs hP hD hS => ?_)
  have hP : va_P g.1 vwCl [(q63, .inr (10, [w64, .int 0, .int 0])), (q1, .inr (11, [.ref q63, w53, w54, w55, w56, w57, w58, w59, w60, w61, w62])), (q47, .inl (g.2 0, 60, .inl f48)), (q2, .inr (8, [.ref q10, w4, .ref q47, w6, .int 1, w8, w9])), (q14, .inl (g.2 0, 40, .inl (upd (upd (upd (upd (upd (upd (upd (upd (upd f15 1 0) 4 1) 9 1) 14 1) 19 1) 24 1) 29 1) 34 1) 39 1))), (q10, .inr (5, [.ref q13, .ref q14]))] H := hP
  have hD : va_D A [(q63, .inr (10, [w64, .int 0, .int 0])), (q1, .inr (11, [.ref q63, w53, w54, w55, w56, w57, w58, w59, w60, w61, w62])), (q47, .inl (g.2 0, 60, .inl f48)), (q2, .inr (8, [.ref q10, w4, .ref q47, w6, .int 1, w8, w9])), (q14, .inl (g.2 0, 40, .inl (upd (upd (upd (upd (upd (upd (upd (upd (upd f15 1 0) 4 1) 9 1) 14 1) 19 1) 24 1) 29 1) 34 1) 39 1))), (q10, .inr (5, [.ref q13, .ref q14]))] := hD
  refine lv_if_ne (tgt := 28) hx hb dX9_acceptIfFitting_14 (by decide) (fun _ => ?_) (fun h => absurd h (by decide))
  refine lv_aload_n hx hb dX9_acceptIfFitting_28 rfl (lv_at hl 0 rfl) ?_
  refine g_v (wr := [(q47, .inl (g.2 0, 60, .inl f48)), (q2, .inr (8, [.ref q10, w4, .ref q47, w6, .int 1, w8, w9])), (q14, .inl (g.2 0, 40, .inl (upd (upd (upd (upd (upd (upd (upd (upd (upd f15 1 0) 4 1) 9 1) 14 1) 19 1) 24 1) 29 1) 34 1) 39 1))), (q10, .inr (5, [.ref q13, .ref q14]))]) (rV (rest := []) hx hb hml hown hE hP hD 1 rfl rfl (c191_X9_accept l g q1 q63 w53 w54 w55 w56 w57 w58 w59 w60 w61 w62 w64 H.size) (kV_X9_accept hE (e718 hE) rfl rfl ⟨(Nat.le_of_ble_eq_true rfl), (Nat.le_of_ble_eq_true rfl)⟩) [0, 1] rfl (by decide) rfl hl.1 rfl (lv_room (Nat.le_of_ble_eq_true rfl)) dX9_acceptIfFitting_29 ⟨(Nat.le_of_ble_eq_true rfl), (Nat.le_of_ble_eq_true rfl)⟩) hP hD hS hA [0, 1] [2, 3, 4, 5] rfl rfl (by decide) (by decide) (fun u3 H locs hP hD hS => ?_)
  have hP : va_P g.1 vwCl [(q47, .inl (g.2 0, 60, .inl f48)), (q2, .inr (8, [.ref q10, w4, .ref q47, w6, .int 1, w8, w9])), (q14, .inl (g.2 0, 40, .inl (upd (upd (upd (upd (upd (upd (upd (upd (upd f15 1 0) 4 1) 9 1) 14 1) 19 1) 24 1) 29 1) 34 1) 39 1))), (q10, .inr (5, [.ref q13, .ref q14])), (q63, .inr (10, [w64, .int 1, .int 1])), (q1, .inr (11, [.ref q63, w53, w54, w55, w56, w57, w58, w59, .int 0, .int 0, w62]))] H := hP
  have hD : va_D A [(q47, .inl (g.2 0, 60, .inl f48)), (q2, .inr (8, [.ref q10, w4, .ref q47, w6, .int 1, w8, w9])), (q14, .inl (g.2 0, 40, .inl (upd (upd (upd (upd (upd (upd (upd (upd (upd f15 1 0) 4 1) 9 1) 14 1) 19 1) 24 1) 29 1) 34 1) 39 1))), (q10, .inr (5, [.ref q13, .ref q14])), (q63, .inr (10, [w64, .int 1, .int 1])), (q1, .inr (11, [.ref q63, w53, w54, w55, w56, w57, w58, w59, .int 0, .int 0, w62]))] := hD
  exact x_vret hx hb hr hlocks hP hD hS hAe hsz (Nat.le_of_ble_eq_true rfl) (Nat.le_of_ble_eq_true rfl) (fun _ => 0) [0, 1, 2, 3, 4, 5] (by decide) rfl dX9_acceptIfFitting_32

set_option maxHeartbeats 4000000 in
set_option maxRecDepth 100000 in
theorem c1556_X9_addClip (l : Launch) (g : gG) (q1 q25 q29 q32 q34 q42 q43 q44 q45 q53 q54 q55 q56 q59 q60 q63 q64 q71 q72 q77 q78 : Nat) (x2 x3 x4 x5 : Int32) (w15 w16 w17 w18 w19 w20 w21 w22 w23 w24 w39 w40 w41 w75 w76 : Value) (f30 : Nat → Option Nat) (f65 : Nat → Int32) (f66 : Nat → Int32) (f79 : Nat → Int32) (f80 : Nat → Int32) (hf31 : f30 1 = some q32) (hf33 : f30 0 = some q34) (hf81 : f66 0 = 0) (hf82 : f66 2 = 0) (hf83 : f66 3 = 0) (hf84 : f66 5 = 0) (hf85 : f66 6 = 0) (hf86 : f66 7 = 0) (hf87 : f66 8 = 0) (hf88 : f66 10 = 0) (hf89 : f66 11 = 0) (hf90 : f66 12 = 0) (hf91 : f66 13 = 0) (hf92 : f66 15 = 0) (hf93 : f66 16 = 0) (hf94 : f66 17 = 0) (hf95 : f66 18 = 0) (hf96 : f66 20 = 0) (hf97 : f66 21 = 0) (hf98 : f66 22 = 0) (hf99 : f66 23 = 0) (hf100 : f66 25 = 0) (hf101 : f66 26 = 0) (hf102 : f66 27 = 0) (hf103 : f66 28 = 0) (hf104 : f66 30 = 0) (hf105 : f66 31 = 0) (hf106 : f66 32 = 0) (hf107 : f66 33 = 0) (hf108 : f66 35 = 0) (hf109 : f66 36 = 0) (hf110 : f66 37 = 0) (hf111 : f66 38 = 0) (h6 : (0 : Int32) ≤ x2) (h7 : x2 ≤ 9999) (h8 : (1 : Int32) ≤ x3) (h9 : x3 ≤ 9) (h10 : ((-50) : Int32) ≤ x4) (h11 : x4 ≤ 50) (h12 : (0 : Int32) ≤ x5) (h13 : x5 ≤ 3) (sz : Nat) : Met l yX9_addClip [Cond.code yX9_addClip cX9_addClip 7 (some .int)] ({ frames := 5, cells := 0, slots := 0, locals := 148 } : Room) (va_Pc [.ref q1, .int x2, .int 5, .int x3, .int x4, .int x5] (PX g sz [(q45, .inl (g.2 0, 20, .inl f80)), (q56, .inl (g.2 0, 20, .inl f80)), (q44, .inl (g.2 0, 60, .inl f65)), (q55, .inl (g.2 0, 60, .inl f65)), (q78, .inl (g.2 0, 10, .inl f79)), (q72, .inl (g.2 0, 10, .inl f79)), (q77, .inl (g.2 0, 10, .inl f65)), (q71, .inl (g.2 0, 10, .inl f65)), (q43, .inr (9, [.ref q77, .ref q78, w75, w76])), (q54, .inr (9, [.ref q71, .ref q72, .int 1, .int 0])), (q64, .inl (g.2 0, 40, .inl f66)), (q60, .inl (g.2 0, 40, .inl f66)), (q63, .inl (g.2 0, 384, .inl f65)), (q59, .inl (g.2 0, 384, .inl f65)), (q42, .inr (5, [.ref q63, .ref q64])), (q53, .inr (5, [.ref q59, .ref q60])), (q34, .inr (8, [.ref q53, .ref q54, .ref q55, .ref q56, .int 0, .int 4, .int 0])), (q32, .inr (8, [.ref q42, .ref q43, .ref q44, .ref q45, w39, w40, w41])), (q29, .inl (g.2 3, 10, .inr (.inr (.inr (.inr f30))))), (q25, .inr (10, [.ref q29, .int 0, .int 0])), (q1, .inr (11, [.ref q25, w15, w16, w17, w18, w19, w20, w21, w22, w23, w24]))])) (QI g [(q45, .inl (g.2 0, 20, .inl f80)), (q56, .inl (g.2 0, 20, .inl f80)), (q44, .inl (g.2 0, 60, .inl f65)), (q55, .inl (g.2 0, 60, .inl f65)), (q78, .inl (g.2 0, 10, .inl f79)), (q72, .inl (g.2 0, 10, .inl f79)), (q77, .inl (g.2 0, 10, .inl f65)), (q71, .inl (g.2 0, 10, .inl f65)), (q43, .inr (9, [.ref q77, .ref q78, w75, w76])), (q54, .inr (9, [.ref q71, .ref q72, .int 1, .int 0])), (q64, .inl (g.2 0, 40, .inl f66)), (q60, .inl (g.2 0, 40, .inl f66)), (q63, .inl (g.2 0, 384, .inl f65)), (q59, .inl (g.2 0, 384, .inl f65)), (q42, .inr (5, [.ref q63, .ref q64])), (q53, .inr (5, [.ref q59, .ref q60])), (q34, .inr (8, [.ref q53, .ref q54, .ref q55, .ref q56, .int 0, .int 4, .int 0])), (q32, .inr (8, [.ref q42, .ref q43, .ref q44, .ref q45, w39, w40, w41])), (q29, .inl (g.2 3, 10, .inr (.inr (.inr (.inr f30))))), (q25, .inr (10, [.ref q29, .int 0, .int 0])), (q1, .inr (11, [.ref q25, w15, w16, w17, w18, w19, w20, w21, w22, w23, w24]))] sz 0 (fun _ => [(q29, .inl (g.2 3, 10, .inr (.inr (.inr (.inr f30))))), (q34, .inr (8, [.ref q53, .ref q54, .ref q55, .ref q56, .int 0, .int 4, .int 0])), (q53, .inr (5, [.ref q59, .ref q60])), (q63, .inl (g.2 0, 384, .inl f65)), (q59, .inl (g.2 0, 384, .inl f65)), (q60, .inl (g.2 0, 40, .inl f66)), (q43, .inr (9, [.ref q77, .ref q78, .int 1, .int 0])), (q54, .inr (9, [.ref q71, .ref q72, .int 1, .int 0])), (q77, .inl (g.2 0, 10, .inl f65)), (q71, .inl (g.2 0, 10, .inl f65)), (q78, .inl (g.2 0, 10, .inl f79)), (q72, .inl (g.2 0, 10, .inl f79)), (q55, .inl (g.2 0, 60, .inl f65)), (q45, .inl (g.2 0, 20, .inl f80)), (q56, .inl (g.2 0, 20, .inl f80)), (q44, .inl (g.2 0, 60, .inl (upd (upd (upd (upd (upd f65 0 x2) 1 5) 2 x3) 3 x4) 4 x5))), (q64, .inl (g.2 0, 40, .inl (upd (upd (upd (upd (upd (upd (upd (upd (upd f66 1 0) 4 1) 9 1) 14 1) 19 1) 24 1) 29 1) 34 1) 39 1))), (q42, .inr (5, [.ref q63, .ref q64])), (q25, .inr (10, [.ref q29, .int 1, .int 1])), (q1, .inr (11, [.ref q25, w15, w16, w17, w18, w19, w20, w21, .int 0, .int 0, w24])), (q32, .inr (8, [.ref q42, .ref q43, .ref q44, .ref q45, .int 1, .int 4, .int 0]))])) 0 0 (va_A [(q45, .inl (g.2 0, 20, .inl f80)), (q56, .inl (g.2 0, 20, .inl f80)), (q44, .inl (g.2 0, 60, .inl f65)), (q55, .inl (g.2 0, 60, .inl f65)), (q78, .inl (g.2 0, 10, .inl f79)), (q72, .inl (g.2 0, 10, .inl f79)), (q77, .inl (g.2 0, 10, .inl f65)), (q71, .inl (g.2 0, 10, .inl f65)), (q43, .inr (9, [.ref q77, .ref q78, w75, w76])), (q54, .inr (9, [.ref q71, .ref q72, .int 1, .int 0])), (q64, .inl (g.2 0, 40, .inl f66)), (q60, .inl (g.2 0, 40, .inl f66)), (q63, .inl (g.2 0, 384, .inl f65)), (q59, .inl (g.2 0, 384, .inl f65)), (q42, .inr (5, [.ref q63, .ref q64])), (q53, .inr (5, [.ref q59, .ref q60])), (q34, .inr (8, [.ref q53, .ref q54, .ref q55, .ref q56, .int 0, .int 4, .int 0])), (q32, .inr (8, [.ref q42, .ref q43, .ref q44, .ref q45, w39, w40, w41])), (q29, .inl (g.2 3, 10, .inr (.inr (.inr (.inr f30))))), (q25, .inr (10, [.ref q29, .int 0, .int 0])), (q1, .inr (11, [.ref q25, w15, w16, w17, w18, w19, w20, w21, w22, w23, w24]))] sz) := by
  refine ofN (by decide) (Nat.le_of_ble_eq_true rfl) rfl ?_
  intro p e s m args below meth c A ls hAe hsz hx hb hml hr hlocks hin hown hE hP hD hA hS hl
  have hown : s.vm.findClass RX9 = some m.cls := hown
  refine lv_iload_n hx hb dX9_addClip_0 rfl (lv_at hl 1 rfl) ?_
  refine lv_iconst (v := 0) hx hb dX9_addClip_1 (by decide) ?_
  refine lv_sipush (v := 9999) hx hb dX9_addClip_2 (by decide) ?_
  refine g0_v (rS (rest := []) hx hb hml hown hE hP hD (c1477_X9_requireRange l g x2 h6 h7 s.heap.size) (kS_X9_requireRange hE (e636 hE) rfl rfl ⟨(Nat.le_of_ble_eq_true rfl), (Nat.le_of_ble_eq_true rfl)⟩) [] rfl (by decide) rfl hl.1 rfl (lv_room (Nat.le_of_ble_eq_true rfl)) dX9_addClip_5 ⟨(Nat.le_of_ble_eq_true rfl), (Nat.le_of_ble_eq_true rfl)⟩) hP hD hS hA (fun u9 H locs hP hS => ?_)
  refine lv_iload_n hx hb dX9_addClip_8 rfl (lv_at hl 2 rfl) ?_
  refine lv_iconst (v := 0) hx hb dX9_addClip_9 (by decide) ?_
  refine lv_bipush (v := 7) hx hb dX9_addClip_10 (by decide) ?_
  refine g0_v (rS (rest := []) hx hb hml hown hE hP hD (c1482_X9_requireRange l g 5 (by decide) (by decide) H.size) (kS_X9_requireRange hE (e636 hE) rfl rfl ⟨(Nat.le_of_ble_eq_true rfl), (Nat.le_of_ble_eq_true rfl)⟩) [] rfl (by decide) rfl hl.1 rfl (lv_room (Nat.le_of_ble_eq_true rfl)) dX9_addClip_12 ⟨(Nat.le_of_ble_eq_true rfl), (Nat.le_of_ble_eq_true rfl)⟩) hP hD hS hA (fun u9 H locs hP hS => ?_)
  refine lv_iload_n hx hb dX9_addClip_15 rfl (lv_at hl 3 rfl) ?_
  refine lv_iconst (v := 1) hx hb dX9_addClip_16 (by decide) ?_
  refine lv_bipush (v := 9) hx hb dX9_addClip_17 (by decide) ?_
  refine g0_v (rS (rest := []) hx hb hml hown hE hP hD (c117_X9_requireRange l g x3 h8 h9 H.size) (kS_X9_requireRange hE (e636 hE) rfl rfl ⟨(Nat.le_of_ble_eq_true rfl), (Nat.le_of_ble_eq_true rfl)⟩) [] rfl (by decide) rfl hl.1 rfl (lv_room (Nat.le_of_ble_eq_true rfl)) dX9_addClip_19 ⟨(Nat.le_of_ble_eq_true rfl), (Nat.le_of_ble_eq_true rfl)⟩) hP hD hS hA (fun u9 H locs hP hS => ?_)
  refine lv_iload hx hb dX9_addClip_22 (lv_at hl 4 rfl) ?_
  refine lv_bipush (v := (-50)) hx hb dX9_addClip_24 (by decide) ?_
  refine lv_bipush (v := 50) hx hb dX9_addClip_26 (by decide) ?_
  refine g0_v (rS (rest := []) hx hb hml hown hE hP hD (c1491_X9_requireRange l g x4 h10 h11 H.size) (kS_X9_requireRange hE (e636 hE) rfl rfl ⟨(Nat.le_of_ble_eq_true rfl), (Nat.le_of_ble_eq_true rfl)⟩) [] rfl (by decide) rfl hl.1 rfl (lv_room (Nat.le_of_ble_eq_true rfl)) dX9_addClip_28 ⟨(Nat.le_of_ble_eq_true rfl), (Nat.le_of_ble_eq_true rfl)⟩) hP hD hS hA (fun u9 H locs hP hS => ?_)
  refine lv_iload hx hb dX9_addClip_31 (lv_at hl 5 rfl) ?_
  refine lv_iconst (v := 0) hx hb dX9_addClip_33 (by decide) ?_
  refine lv_iconst (v := 3) hx hb dX9_addClip_34 (by decide) ?_
  refine g0_v (rS (rest := []) hx hb hml hown hE hP hD (c815_X9_requireRange l g x5 h12 h13 H.size) (kS_X9_requireRange hE (e636 hE) rfl rfl ⟨(Nat.le_of_ble_eq_true rfl), (Nat.le_of_ble_eq_true rfl)⟩) [] rfl (by decide) rfl hl.1 rfl (lv_room (Nat.le_of_ble_eq_true rfl)) dX9_addClip_35 ⟨(Nat.le_of_ble_eq_true rfl), (Nat.le_of_ble_eq_true rfl)⟩) hP hD hS hA (fun u9 H locs hP hS => ?_)
  refine lv_aload_n hx hb dX9_addClip_38 rfl (lv_at hl 0 rfl) ?_
  refine gf_RX9_12 hx hb hown hE hP 20 rfl rfl dX9_addClip_39 ?_
  refine g_r (wr := [(q1, .inr (11, [.ref q25, w15, w16, w17, w18, w19, w20, w21, w22, w23, w24]))]) (rV (rest := []) hx hb hml hown hE hP hD 19 rfl rfl (c127_X8_draft l g q25 q29 q32 q34 q42 q53 q59 q63 q60 q64 q43 q54 q71 q77 q72 q78 q55 q44 q56 q45 (.int 0) w39 w40 w41 w75 w76 f30 f65 f66 f79 f80 (hf31) (hf33) H.size) (kV_X8_draft hE (e659 hE) rfl rfl ⟨(Nat.le_of_ble_eq_true rfl), (Nat.le_of_ble_eq_true rfl)⟩) [0, 1, 2, 3, 4, 5, 6, 7, 8, 9, 10, 11, 12, 13, 14, 15, 16, 17, 18, 19] rfl (by decide) rfl hl.1 rfl (lv_room (Nat.le_of_ble_eq_true rfl)) dX9_addClip_42 ⟨(Nat.le_of_ble_eq_true rfl), (Nat.le_of_ble_eq_true rfl)⟩) hP hD hS hA [0, 1, 2, 3, 4, 5, 6, 7, 8, 9, 10, 11, 12, 13, 14, 15, 16, 17, 18, 19] [20] rfl rfl (by decide) (by decide) (fun u6 H locs hP hD hS => ?_)
  have hP : va_P g.1 vwCl [(q1, .inr (11, [.ref q25, w15, w16, w17, w18, w19, w20, w21, w22, w23, w24])), (q29, .inl (g.2 3, 10, .inr (.inr (.inr (.inr f30))))), (q25, .inr (10, [.ref q29, .int 0, .int 0])), (q34, .inr (8, [.ref q53, .ref q54, .ref q55, .ref q56, .int 0, .int 4, .int 0])), (q32, .inr (8, [.ref q42, .ref q43, .ref q44, .ref q45, .int 0, .int 4, .int 0])), (q42, .inr (5, [.ref q63, .ref q64])), (q53, .inr (5, [.ref q59, .ref q60])), (q63, .inl (g.2 0, 384, .inl f65)), (q59, .inl (g.2 0, 384, .inl f65)), (q64, .inl (g.2 0, 40, .inl f66)), (q60, .inl (g.2 0, 40, .inl f66)), (q43, .inr (9, [.ref q77, .ref q78, .int 1, .int 0])), (q54, .inr (9, [.ref q71, .ref q72, .int 1, .int 0])), (q77, .inl (g.2 0, 10, .inl f65)), (q71, .inl (g.2 0, 10, .inl f65)), (q78, .inl (g.2 0, 10, .inl f79)), (q72, .inl (g.2 0, 10, .inl f79)), (q44, .inl (g.2 0, 60, .inl f65)), (q55, .inl (g.2 0, 60, .inl f65)), (q45, .inl (g.2 0, 20, .inl f80)), (q56, .inl (g.2 0, 20, .inl f80))] H := hP
  have hD : va_D A [(q1, .inr (11, [.ref q25, w15, w16, w17, w18, w19, w20, w21, w22, w23, w24])), (q29, .inl (g.2 3, 10, .inr (.inr (.inr (.inr f30))))), (q25, .inr (10, [.ref q29, .int 0, .int 0])), (q34, .inr (8, [.ref q53, .ref q54, .ref q55, .ref q56, .int 0, .int 4, .int 0])), (q32, .inr (8, [.ref q42, .ref q43, .ref q44, .ref q45, .int 0, .int 4, .int 0])), (q42, .inr (5, [.ref q63, .ref q64])), (q53, .inr (5, [.ref q59, .ref q60])), (q63, .inl (g.2 0, 384, .inl f65)), (q59, .inl (g.2 0, 384, .inl f65)), (q64, .inl (g.2 0, 40, .inl f66)), (q60, .inl (g.2 0, 40, .inl f66)), (q43, .inr (9, [.ref q77, .ref q78, .int 1, .int 0])), (q54, .inr (9, [.ref q71, .ref q72, .int 1, .int 0])), (q77, .inl (g.2 0, 10, .inl f65)), (q71, .inl (g.2 0, 10, .inl f65)), (q78, .inl (g.2 0, 10, .inl f79)), (q72, .inl (g.2 0, 10, .inl f79)), (q44, .inl (g.2 0, 60, .inl f65)), (q55, .inl (g.2 0, 60, .inl f65)), (q45, .inl (g.2 0, 20, .inl f80)), (q56, .inl (g.2 0, 20, .inl f80))] := hD
  refine lv_astore (lv' := [(6, .ref q32), (0, .ref q1), (1, .int x2), (2, .int 5), (3, .int x3), (4, .int x4), (5, .int x5)]) hx hb dX9_addClip_45 hl (by decide) rfl (fun ls hl => ?_)
  refine lv_aload hx hb dX9_addClip_47 (lv_at hl 0 rfl) ?_
  refine g_i (wr := [(q1, .inr (11, [.ref q25, w15, w16, w17, w18, w19, w20, w21, w22, w23, w24])), (q29, .inl (g.2 3, 10, .inr (.inr (.inr (.inr f30))))), (q25, .inr (10, [.ref q29, .int 0, .int 0])), (q34, .inr (8, [.ref q53, .ref q54, .ref q55, .ref q56, .int 0, .int 4, .int 0])), (q42, .inr (5, [.ref q63, .ref q64])), (q53, .inr (5, [.ref q59, .ref q60])), (q63, .inl (g.2 0, 384, .inl f65)), (q59, .inl (g.2 0, 384, .inl f65)), (q64, .inl (g.2 0, 40, .inl f66)), (q60, .inl (g.2 0, 40, .inl f66)), (q43, .inr (9, [.ref q77, .ref q78, .int 1, .int 0])), (q54, .inr (9, [.ref q71, .ref q72, .int 1, .int 0])), (q77, .inl (g.2 0, 10, .inl f65)), (q71, .inl (g.2 0, 10, .inl f65)), (q78, .inl (g.2 0, 10, .inl f79)), (q72, .inl (g.2 0, 10, .inl f79)), (q44, .inl (g.2 0, 60, .inl f65)), (q55, .inl (g.2 0, 60, .inl f65)), (q45, .inl (g.2 0, 20, .inl f80)), (q56, .inl (g.2 0, 20, .inl f80))]) (rV (rest := []) hx hb hml hown hE hP hD 4 rfl rfl (c72_X6_clipCount l g q32 (.ref q42) (.ref q43) (.ref q44) (.ref q45) (.int 4) (.int 0) H.size) (kV_X6_clipCount hE (e297 hE) rfl rfl ⟨(Nat.le_of_ble_eq_true rfl), (Nat.le_of_ble_eq_true rfl)⟩) [4] rfl (by decide) rfl hl.1 rfl (lv_room (Nat.le_of_ble_eq_true rfl)) dX9_addClip_49 ⟨(Nat.le_of_ble_eq_true rfl), (Nat.le_of_ble_eq_true rfl)⟩) hP hD hS hA [4] [0, 1, 2, 3, 5, 6, 7, 8, 9, 10, 11, 12, 13, 14, 15, 16, 17, 18, 19, 20] rfl rfl (by decide) (by decide) (fun u7 H locs hP hD hS => ?_)
  have hP : va_P g.1 vwCl [(q1, .inr (11, [.ref q25, w15, w16, w17, w18, w19, w20, w21, w22, w23, w24])), (q29, .inl (g.2 3, 10, .inr (.inr (.inr (.inr f30))))), (q25, .inr (10, [.ref q29, .int 0, .int 0])), (q34, .inr (8, [.ref q53, .ref q54, .ref q55, .ref q56, .int 0, .int 4, .int 0])), (q42, .inr (5, [.ref q63, .ref q64])), (q53, .inr (5, [.ref q59, .ref q60])), (q63, .inl (g.2 0, 384, .inl f65)), (q59, .inl (g.2 0, 384, .inl f65)), (q64, .inl (g.2 0, 40, .inl f66)), (q60, .inl (g.2 0, 40, .inl f66)), (q43, .inr (9, [.ref q77, .ref q78, .int 1, .int 0])), (q54, .inr (9, [.ref q71, .ref q72, .int 1, .int 0])), (q77, .inl (g.2 0, 10, .inl f65)), (q71, .inl (g.2 0, 10, .inl f65)), (q78, .inl (g.2 0, 10, .inl f79)), (q72, .inl (g.2 0, 10, .inl f79)), (q44, .inl (g.2 0, 60, .inl f65)), (q55, .inl (g.2 0, 60, .inl f65)), (q45, .inl (g.2 0, 20, .inl f80)), (q56, .inl (g.2 0, 20, .inl f80)), (q32, .inr (8, [.ref q42, .ref q43, .ref q44, .ref q45, .int 0, .int 4, .int 0]))] H := hP
  have hD : va_D A [(q1, .inr (11, [.ref q25, w15, w16, w17, w18, w19, w20, w21, w22, w23, w24])), (q29, .inl (g.2 3, 10, .inr (.inr (.inr (.inr f30))))), (q25, .inr (10, [.ref q29, .int 0, .int 0])), (q34, .inr (8, [.ref q53, .ref q54, .ref q55, .ref q56, .int 0, .int 4, .int 0])), (q42, .inr (5, [.ref q63, .ref q64])), (q53, .inr (5, [.ref q59, .ref q60])), (q63, .inl (g.2 0, 384, .inl f65)), (q59, .inl (g.2 0, 384, .inl f65)), (q64, .inl (g.2 0, 40, .inl f66)), (q60, .inl (g.2 0, 40, .inl f66)), (q43, .inr (9, [.ref q77, .ref q78, .int 1, .int 0])), (q54, .inr (9, [.ref q71, .ref q72, .int 1, .int 0])), (q77, .inl (g.2 0, 10, .inl f65)), (q71, .inl (g.2 0, 10, .inl f65)), (q78, .inl (g.2 0, 10, .inl f79)), (q72, .inl (g.2 0, 10, .inl f79)), (q44, .inl (g.2 0, 60, .inl f65)), (q55, .inl (g.2 0, 60, .inl f65)), (q45, .inl (g.2 0, 20, .inl f80)), (q56, .inl (g.2 0, 20, .inl f80)), (q32, .inr (8, [.ref q42, .ref q43, .ref q44, .ref q45, .int 0, .int 4, .int 0]))] := hD
  refine lv_bipush (v := 12) hx hb dX9_addClip_52 (by decide) ?_
  refine lv_icmp_lt (tgt := 67) hx hb dX9_addClip_54 (by decide) (fun _ => ?_) (fun h => absurd (by decide) h)
  refine lv_aload hx hb dX9_addClip_67 (lv_at hl 0 rfl) ?_
  refine lv_iload_n hx hb dX9_addClip_69 rfl (lv_at hl 2 rfl) ?_
  refine lv_iload_n hx hb dX9_addClip_70 rfl (lv_at hl 3 rfl) ?_
  refine lv_iload_n hx hb dX9_addClip_71 rfl (lv_at hl 4 rfl) ?_
  refine lv_iload hx hb dX9_addClip_72 (lv_at hl 5 rfl) ?_
  refine lv_iload hx hb dX9_addClip_74 (lv_at hl 6 rfl) ?_
  refine g_v (wr := [(q1, .inr (11, [.ref q25, w15, w16, w17, w18, w19, w20, w21, w22, w23, w24])), (q29, .inl (g.2 3, 10, .inr (.inr (.inr (.inr f30))))), (q25, .inr (10, [.ref q29, .int 0, .int 0])), (q34, .inr (8, [.ref q53, .ref q54, .ref q55, .ref q56, .int 0, .int 4, .int 0])), (q42, .inr (5, [.ref q63, .ref q64])), (q53, .inr (5, [.ref q59, .ref q60])), (q63, .inl (g.2 0, 384, .inl f65)), (q59, .inl (g.2 0, 384, .inl f65)), (q64, .inl (g.2 0, 40, .inl f66)), (q60, .inl (g.2 0, 40, .inl f66)), (q43, .inr (9, [.ref q77, .ref q78, .int 1, .int 0])), (q54, .inr (9, [.ref q71, .ref q72, .int 1, .int 0])), (q77, .inl (g.2 0, 10, .inl f65)), (q71, .inl (g.2 0, 10, .inl f65)), (q78, .inl (g.2 0, 10, .inl f79)), (q72, .inl (g.2 0, 10, .inl f79)), (q55, .inl (g.2 0, 60, .inl f65)), (q45, .inl (g.2 0, 20, .inl f80)), (q56, .inl (g.2 0, 20, .inl f80))]) (rV (rest := []) hx hb hml hown hE hP hD 20 rfl rfl (c1501_X6_putClip l g q32 q44 x2 5 x3 x4 x5 (.ref q42) (.ref q43) (.ref q45) (.int 4) (.int 0) f65 H.size) (kV_X6_putClip hE (e808 hE) rfl rfl ⟨(Nat.le_of_ble_eq_true rfl), (Nat.le_of_ble_eq_true rfl)⟩) [16, 20] rfl (by decide) rfl hl.1 rfl (lv_room (Nat.le_of_ble_eq_true rfl)) dX9_addClip_76 ⟨(Nat.le_of_ble_eq_true rfl), (Nat.le_of_ble_eq_true rfl)⟩) hP hD hS hA [16, 20] [0, 1, 2, 3, 4, 5, 6, 7, 8, 9, 10, 11, 12, 13, 14, 15, 17, 18, 19] rfl rfl (by decide) (by decide) (fun u8 H locs hP hD hS => ?_)
  have hP : va_P g.1 vwCl [(q1, .inr (11, [.ref q25, w15, w16, w17, w18, w19, w20, w21, w22, w23, w24])), (q29, .inl (g.2 3, 10, .inr (.inr (.inr (.inr f30))))), (q25, .inr (10, [.ref q29, .int 0, .int 0])), (q34, .inr (8, [.ref q53, .ref q54, .ref q55, .ref q56, .int 0, .int 4, .int 0])), (q42, .inr (5, [.ref q63, .ref q64])), (q53, .inr (5, [.ref q59, .ref q60])), (q63, .inl (g.2 0, 384, .inl f65)), (q59, .inl (g.2 0, 384, .inl f65)), (q64, .inl (g.2 0, 40, .inl f66)), (q60, .inl (g.2 0, 40, .inl f66)), (q43, .inr (9, [.ref q77, .ref q78, .int 1, .int 0])), (q54, .inr (9, [.ref q71, .ref q72, .int 1, .int 0])), (q77, .inl (g.2 0, 10, .inl f65)), (q71, .inl (g.2 0, 10, .inl f65)), (q78, .inl (g.2 0, 10, .inl f79)), (q72, .inl (g.2 0, 10, .inl f79)), (q55, .inl (g.2 0, 60, .inl f65)), (q45, .inl (g.2 0, 20, .inl f80)), (q56, .inl (g.2 0, 20, .inl f80)), (q32, .inr (8, [.ref q42, .ref q43, .ref q44, .ref q45, .int 1, .int 4, .int 0])), (q44, .inl (g.2 0, 60, .inl (upd (upd (upd (upd (upd f65 0 x2) 1 5) 2 x3) 3 x4) 4 x5)))] H := hP
  have hD : va_D A [(q1, .inr (11, [.ref q25, w15, w16, w17, w18, w19, w20, w21, w22, w23, w24])), (q29, .inl (g.2 3, 10, .inr (.inr (.inr (.inr f30))))), (q25, .inr (10, [.ref q29, .int 0, .int 0])), (q34, .inr (8, [.ref q53, .ref q54, .ref q55, .ref q56, .int 0, .int 4, .int 0])), (q42, .inr (5, [.ref q63, .ref q64])), (q53, .inr (5, [.ref q59, .ref q60])), (q63, .inl (g.2 0, 384, .inl f65)), (q59, .inl (g.2 0, 384, .inl f65)), (q64, .inl (g.2 0, 40, .inl f66)), (q60, .inl (g.2 0, 40, .inl f66)), (q43, .inr (9, [.ref q77, .ref q78, .int 1, .int 0])), (q54, .inr (9, [.ref q71, .ref q72, .int 1, .int 0])), (q77, .inl (g.2 0, 10, .inl f65)), (q71, .inl (g.2 0, 10, .inl f65)), (q78, .inl (g.2 0, 10, .inl f79)), (q72, .inl (g.2 0, 10, .inl f79)), (q55, .inl (g.2 0, 60, .inl f65)), (q45, .inl (g.2 0, 20, .inl f80)), (q56, .inl (g.2 0, 20, .inl f80)), (q32, .inr (8, [.ref q42, .ref q43, .ref q44, .ref q45, .int 1, .int 4, .int 0])), (q44, .inl (g.2 0, 60, .inl (upd (upd (upd (upd (upd f65 0 x2) 1 5) 2 x3) 3 x4) 4 x5)))] := hD
  refine lv_aload_n hx hb dX9_addClip_79 rfl (lv_at hl 1 rfl) ?_
  refine lv_aload hx hb dX9_addClip_80 (lv_at hl 0 rfl) ?_
  refine g_v (wr := [(q29, .inl (g.2 3, 10, .inr (.inr (.inr (.inr f30))))), (q34, .inr (8, [.ref q53, .ref q54, .ref q55, .ref q56, .int 0, .int 4, .int 0])), (q53, .inr (5, [.ref q59, .ref q60])), (q63, .inl (g.2 0, 384, .inl f65)), (q59, .inl (g.2 0, 384, .inl f65)), (q60, .inl (g.2 0, 40, .inl f66)), (q43, .inr (9, [.ref q77, .ref q78, .int 1, .int 0])), (q54, .inr (9, [.ref q71, .ref q72, .int 1, .int 0])), (q77, .inl (g.2 0, 10, .inl f65)), (q71, .inl (g.2 0, 10, .inl f65)), (q78, .inl (g.2 0, 10, .inl f79)), (q72, .inl (g.2 0, 10, .inl f79)), (q55, .inl (g.2 0, 60, .inl f65)), (q45, .inl (g.2 0, 20, .inl f80)), (q56, .inl (g.2 0, 20, .inl f80))]) (rV (rest := []) hx hb hml hown hE hP hD 0 rfl rfl (c1555_X9_acceptIfFitting l g q1 q32 q42 q63 q64 q44 q25 x3 (.ref q43) (.ref q45) (.int 4) (.int 0) w15 w16 w17 w18 w19 w20 w21 w22 w23 w24 (.ref q29) f66 (upd (upd (upd (upd (upd f65 0 x2) 1 5) 2 x3) 3 x4) 4 x5) (hf81) (hf82) (hf83) (hf84) (hf85) (hf86) (hf87) (hf88) (hf89) (hf90) (hf91) (hf92) (hf93) (hf94) (hf95) (hf96) (hf97) (hf98) (hf99) (hf100) (hf101) (hf102) (hf103) (hf104) (hf105) (hf106) (hf107) (hf108) (hf109) (hf110) (hf111) (((pk_un (by decide)).trans ((pk_un (by decide)).trans pk_us))) (((pk_un (by decide)).trans ((pk_un (by decide)).trans ((pk_un (by decide)).trans pk_us)))) H.size) (kV_X9_acceptIfFitting hE (e690 hE) rfl rfl ⟨(Nat.le_of_ble_eq_true rfl), (Nat.le_of_ble_eq_true rfl)⟩) [2, 0, 20, 8, 4, 19] rfl (by decide) rfl hl.1 rfl (lv_room (Nat.le_of_ble_eq_true rfl)) dX9_addClip_82 ⟨(Nat.le_of_ble_eq_true rfl), (Nat.le_of_ble_eq_true rfl)⟩) hP hD hS hA [2, 0, 20, 8, 4, 19] [1, 3, 5, 6, 7, 9, 10, 11, 12, 13, 14, 15, 16, 17, 18] rfl rfl (by decide) (by decide) (fun u9 H locs hP hD hS => ?_)
  have hP : va_P g.1 vwCl [(q29, .inl (g.2 3, 10, .inr (.inr (.inr (.inr f30))))), (q34, .inr (8, [.ref q53, .ref q54, .ref q55, .ref q56, .int 0, .int 4, .int 0])), (q53, .inr (5, [.ref q59, .ref q60])), (q63, .inl (g.2 0, 384, .inl f65)), (q59, .inl (g.2 0, 384, .inl f65)), (q60, .inl (g.2 0, 40, .inl f66)), (q43, .inr (9, [.ref q77, .ref q78, .int 1, .int 0])), (q54, .inr (9, [.ref q71, .ref q72, .int 1, .int 0])), (q77, .inl (g.2 0, 10, .inl f65)), (q71, .inl (g.2 0, 10, .inl f65)), (q78, .inl (g.2 0, 10, .inl f79)), (q72, .inl (g.2 0, 10, .inl f79)), (q55, .inl (g.2 0, 60, .inl f65)), (q45, .inl (g.2 0, 20, .inl f80)), (q56, .inl (g.2 0, 20, .inl f80)), (q44, .inl (g.2 0, 60, .inl (upd (upd (upd (upd (upd f65 0 x2) 1 5) 2 x3) 3 x4) 4 x5))), (q32, .inr (8, [.ref q42, .ref q43, .ref q44, .ref q45, .int 1, .int 4, .int 0])), (q64, .inl (g.2 0, 40, .inl (upd (upd (upd (upd (upd (upd (upd (upd (upd f66 1 0) 4 1) 9 1) 14 1) 19 1) 24 1) 29 1) 34 1) 39 1))), (q42, .inr (5, [.ref q63, .ref q64])), (q25, .inr (10, [.ref q29, .int 1, .int 1])), (q1, .inr (11, [.ref q25, w15, w16, w17, w18, w19, w20, w21, .int 0, .int 0, w24]))] H := hP
  have hD : va_D A [(q29, .inl (g.2 3, 10, .inr (.inr (.inr (.inr f30))))), (q34, .inr (8, [.ref q53, .ref q54, .ref q55, .ref q56, .int 0, .int 4, .int 0])), (q53, .inr (5, [.ref q59, .ref q60])), (q63, .inl (g.2 0, 384, .inl f65)), (q59, .inl (g.2 0, 384, .inl f65)), (q60, .inl (g.2 0, 40, .inl f66)), (q43, .inr (9, [.ref q77, .ref q78, .int 1, .int 0])), (q54, .inr (9, [.ref q71, .ref q72, .int 1, .int 0])), (q77, .inl (g.2 0, 10, .inl f65)), (q71, .inl (g.2 0, 10, .inl f65)), (q78, .inl (g.2 0, 10, .inl f79)), (q72, .inl (g.2 0, 10, .inl f79)), (q55, .inl (g.2 0, 60, .inl f65)), (q45, .inl (g.2 0, 20, .inl f80)), (q56, .inl (g.2 0, 20, .inl f80)), (q44, .inl (g.2 0, 60, .inl (upd (upd (upd (upd (upd f65 0 x2) 1 5) 2 x3) 3 x4) 4 x5))), (q32, .inr (8, [.ref q42, .ref q43, .ref q44, .ref q45, .int 1, .int 4, .int 0])), (q64, .inl (g.2 0, 40, .inl (upd (upd (upd (upd (upd (upd (upd (upd (upd f66 1 0) 4 1) 9 1) 14 1) 19 1) 24 1) 29 1) 34 1) 39 1))), (q42, .inr (5, [.ref q63, .ref q64])), (q25, .inr (10, [.ref q29, .int 1, .int 1])), (q1, .inr (11, [.ref q25, w15, w16, w17, w18, w19, w20, w21, .int 0, .int 0, w24]))] := hD
  refine lv_aload hx hb dX9_addClip_85 (lv_at hl 0 rfl) ?_
  refine g_i (wr := [(q29, .inl (g.2 3, 10, .inr (.inr (.inr (.inr f30))))), (q34, .inr (8, [.ref q53, .ref q54, .ref q55, .ref q56, .int 0, .int 4, .int 0])), (q53, .inr (5, [.ref q59, .ref q60])), (q63, .inl (g.2 0, 384, .inl f65)), (q59, .inl (g.2 0, 384, .inl f65)), (q60, .inl (g.2 0, 40, .inl f66)), (q43, .inr (9, [.ref q77, .ref q78, .int 1, .int 0])), (q54, .inr (9, [.ref q71, .ref q72, .int 1, .int 0])), (q77, .inl (g.2 0, 10, .inl f65)), (q71, .inl (g.2 0, 10, .inl f65)), (q78, .inl (g.2 0, 10, .inl f79)), (q72, .inl (g.2 0, 10, .inl f79)), (q55, .inl (g.2 0, 60, .inl f65)), (q45, .inl (g.2 0, 20, .inl f80)), (q56, .inl (g.2 0, 20, .inl f80)), (q44, .inl (g.2 0, 60, .inl (upd (upd (upd (upd (upd f65 0 x2) 1 5) 2 x3) 3 x4) 4 x5))), (q64, .inl (g.2 0, 40, .inl (upd (upd (upd (upd (upd (upd (upd (upd (upd f66 1 0) 4 1) 9 1) 14 1) 19 1) 24 1) 29 1) 34 1) 39 1))), (q42, .inr (5, [.ref q63, .ref q64])), (q25, .inr (10, [.ref q29, .int 1, .int 1])), (q1, .inr (11, [.ref q25, w15, w16, w17, w18, w19, w20, w21, .int 0, .int 0, w24]))]) (rV (rest := []) hx hb hml hown hE hP hD 16 rfl rfl (c1509_X6_clipCount l g q32 (.ref q42) (.ref q43) (.ref q44) (.ref q45) (.int 4) (.int 0) H.size) (kV_X6_clipCount hE (e297 hE) rfl rfl ⟨(Nat.le_of_ble_eq_true rfl), (Nat.le_of_ble_eq_true rfl)⟩) [16] rfl (by decide) rfl hl.1 rfl (lv_room (Nat.le_of_ble_eq_true rfl)) dX9_addClip_87 ⟨(Nat.le_of_ble_eq_true rfl), (Nat.le_of_ble_eq_true rfl)⟩) hP hD hS hA [16] [0, 1, 2, 3, 4, 5, 6, 7, 8, 9, 10, 11, 12, 13, 14, 15, 17, 18, 19, 20] rfl rfl (by decide) (by decide) (fun u10 H locs hP hD hS => ?_)
  have hP : va_P g.1 vwCl [(q29, .inl (g.2 3, 10, .inr (.inr (.inr (.inr f30))))), (q34, .inr (8, [.ref q53, .ref q54, .ref q55, .ref q56, .int 0, .int 4, .int 0])), (q53, .inr (5, [.ref q59, .ref q60])), (q63, .inl (g.2 0, 384, .inl f65)), (q59, .inl (g.2 0, 384, .inl f65)), (q60, .inl (g.2 0, 40, .inl f66)), (q43, .inr (9, [.ref q77, .ref q78, .int 1, .int 0])), (q54, .inr (9, [.ref q71, .ref q72, .int 1, .int 0])), (q77, .inl (g.2 0, 10, .inl f65)), (q71, .inl (g.2 0, 10, .inl f65)), (q78, .inl (g.2 0, 10, .inl f79)), (q72, .inl (g.2 0, 10, .inl f79)), (q55, .inl (g.2 0, 60, .inl f65)), (q45, .inl (g.2 0, 20, .inl f80)), (q56, .inl (g.2 0, 20, .inl f80)), (q44, .inl (g.2 0, 60, .inl (upd (upd (upd (upd (upd f65 0 x2) 1 5) 2 x3) 3 x4) 4 x5))), (q64, .inl (g.2 0, 40, .inl (upd (upd (upd (upd (upd (upd (upd (upd (upd f66 1 0) 4 1) 9 1) 14 1) 19 1) 24 1) 29 1) 34 1) 39 1))), (q42, .inr (5, [.ref q63, .ref q64])), (q25, .inr (10, [.ref q29, .int 1, .int 1])), (q1, .inr (11, [.ref q25, w15, w16, w17, w18, w19, w20, w21, .int 0, .int 0, w24])), (q32, .inr (8, [.ref q42, .ref q43, .ref q44, .ref q45, .int 1, .int 4, .int 0]))] H := hP
  have hD : va_D A [(q29, .inl (g.2 3, 10, .inr (.inr (.inr (.inr f30))))), (q34, .inr (8, [.ref q53, .ref q54, .ref q55, .ref q56, .int 0, .int 4, .int 0])), (q53, .inr (5, [.ref q59, .ref q60])), (q63, .inl (g.2 0, 384, .inl f65)), (q59, .inl (g.2 0, 384, .inl f65)), (q60, .inl (g.2 0, 40, .inl f66)), (q43, .inr (9, [.ref q77, .ref q78, .int 1, .int 0])), (q54, .inr (9, [.ref q71, .ref q72, .int 1, .int 0])), (q77, .inl (g.2 0, 10, .inl f65)), (q71, .inl (g.2 0, 10, .inl f65)), (q78, .inl (g.2 0, 10, .inl f79)), (q72, .inl (g.2 0, 10, .inl f79)), (q55, .inl (g.2 0, 60, .inl f65)), (q45, .inl (g.2 0, 20, .inl f80)), (q56, .inl (g.2 0, 20, .inl f80)), (q44, .inl (g.2 0, 60, .inl (upd (upd (upd (upd (upd f65 0 x2) 1 5) 2 x3) 3 x4) 4 x5))), (q64, .inl (g.2 0, 40, .inl (upd (upd (upd (upd (upd (upd (upd (upd (upd f66 1 0) 4 1) 9 1) 14 1) 19 1) 24 1) 29 1) 34 1) 39 1))), (q42, .inr (5, [.ref q63, .ref q64])), (q25, .inr (10, [.ref q29, .int 1, .int 1])), (q1, .inr (11, [.ref q25, w15, w16, w17, w18, w19, w20, w21, .int 0, .int 0, w24])), (q32, .inr (8, [.ref q42, .ref q43, .ref q44, .ref q45, .int 1, .int 4, .int 0]))] := hD
  refine lv_iconst (v := 1) hx hb dX9_addClip_90 (by decide) ?_
  refine x_isub (v := 0) hx hb dX9_addClip_91 (by decide) ?_
  exact x_zret hx hb hr rfl rfl hlocks hP hD hS hAe hsz (Nat.le_of_ble_eq_true rfl) (Nat.le_of_ble_eq_true rfl) (fun _ => 0) [0, 1, 2, 3, 4, 5, 6, 7, 8, 9, 10, 11, 12, 13, 14, 15, 16, 17, 18, 19, 20] (by decide) rfl dX9_addClip_92

set_option maxHeartbeats 4000000 in
set_option maxRecDepth 100000 in
theorem c1557_L_addClip (l : Launch) (g : gG) (hlx : l.stackTraces = false) (q1 q6 q26 q30 q33 q35 q43 q44 q45 q46 q54 q55 q56 q57 q60 q61 q64 q65 q72 q73 q78 q79 : Nat) (x2 x3 x4 x5 : Int32) (w16 w17 w18 w19 w20 w21 w22 w23 w24 w25 w40 w41 w42 w76 w77 : Value) (f31 : Nat → Option Nat) (f66 : Nat → Int32) (f67 : Nat → Int32) (f80 : Nat → Int32) (f81 : Nat → Int32) (f113 : Nat → Int64) (hf32 : f31 1 = some q33) (hf34 : f31 0 = some q35) (hf82 : f67 0 = 0) (hf83 : f67 2 = 0) (hf84 : f67 3 = 0) (hf85 : f67 5 = 0) (hf86 : f67 6 = 0) (hf87 : f67 7 = 0) (hf88 : f67 8 = 0) (hf89 : f67 10 = 0) (hf90 : f67 11 = 0) (hf91 : f67 12 = 0) (hf92 : f67 13 = 0) (hf93 : f67 15 = 0) (hf94 : f67 16 = 0) (hf95 : f67 17 = 0) (hf96 : f67 18 = 0) (hf97 : f67 20 = 0) (hf98 : f67 21 = 0) (hf99 : f67 22 = 0) (hf100 : f67 23 = 0) (hf101 : f67 25 = 0) (hf102 : f67 26 = 0) (hf103 : f67 27 = 0) (hf104 : f67 28 = 0) (hf105 : f67 30 = 0) (hf106 : f67 31 = 0) (hf107 : f67 32 = 0) (hf108 : f67 33 = 0) (hf109 : f67 35 = 0) (hf110 : f67 36 = 0) (hf111 : f67 37 = 0) (hf112 : f67 38 = 0) (h7 : (0 : Int32) ≤ x2) (h8 : x2 ≤ 9999) (h9 : (1 : Int32) ≤ x3) (h10 : x3 ≤ 9) (h11 : ((-50) : Int32) ≤ x4) (h12 : x4 ≤ 50) (h13 : (0 : Int32) ≤ x5) (h14 : x5 ≤ 3) (sz : Nat) : Met l yL_addClip [Cond.codeWith yL_addClip cL_addClip 8 (some .int) [(0, 16, 19, 15), (0, 16, 23, 17)]] ({ frames := 6, cells := 0, slots := 0, locals := 174 } : Room) (va_Pc [.ref q1, .int x2, .int 5, .int x3, .int x4, .int x5, .ref q6] (PZ g sz [(q6, .inl (g.2 1, 1, .inr (.inl f113))), (q46, .inl (g.2 0, 20, .inl f81)), (q57, .inl (g.2 0, 20, .inl f81)), (q45, .inl (g.2 0, 60, .inl f66)), (q56, .inl (g.2 0, 60, .inl f66)), (q79, .inl (g.2 0, 10, .inl f80)), (q73, .inl (g.2 0, 10, .inl f80)), (q78, .inl (g.2 0, 10, .inl f66)), (q72, .inl (g.2 0, 10, .inl f66)), (q44, .inr (9, [.ref q78, .ref q79, w76, w77])), (q55, .inr (9, [.ref q72, .ref q73, .int 1, .int 0])), (q65, .inl (g.2 0, 40, .inl f67)), (q61, .inl (g.2 0, 40, .inl f67)), (q64, .inl (g.2 0, 384, .inl f66)), (q60, .inl (g.2 0, 384, .inl f66)), (q43, .inr (5, [.ref q64, .ref q65])), (q54, .inr (5, [.ref q60, .ref q61])), (q35, .inr (8, [.ref q54, .ref q55, .ref q56, .ref q57, .int 0, .int 4, .int 0])), (q33, .inr (8, [.ref q43, .ref q44, .ref q45, .ref q46, w40, w41, w42])), (q30, .inl (g.2 3, 10, .inr (.inr (.inr (.inr f31))))), (q26, .inr (10, [.ref q30, .int 0, .int 0])), (q1, .inr (11, [.ref q26, w16, w17, w18, w19, w20, w21, w22, w23, w24, w25]))])) (QI g [(q6, .inl (g.2 1, 1, .inr (.inl f113))), (q46, .inl (g.2 0, 20, .inl f81)), (q57, .inl (g.2 0, 20, .inl f81)), (q45, .inl (g.2 0, 60, .inl f66)), (q56, .inl (g.2 0, 60, .inl f66)), (q79, .inl (g.2 0, 10, .inl f80)), (q73, .inl (g.2 0, 10, .inl f80)), (q78, .inl (g.2 0, 10, .inl f66)), (q72, .inl (g.2 0, 10, .inl f66)), (q44, .inr (9, [.ref q78, .ref q79, w76, w77])), (q55, .inr (9, [.ref q72, .ref q73, .int 1, .int 0])), (q65, .inl (g.2 0, 40, .inl f67)), (q61, .inl (g.2 0, 40, .inl f67)), (q64, .inl (g.2 0, 384, .inl f66)), (q60, .inl (g.2 0, 384, .inl f66)), (q43, .inr (5, [.ref q64, .ref q65])), (q54, .inr (5, [.ref q60, .ref q61])), (q35, .inr (8, [.ref q54, .ref q55, .ref q56, .ref q57, .int 0, .int 4, .int 0])), (q33, .inr (8, [.ref q43, .ref q44, .ref q45, .ref q46, w40, w41, w42])), (q30, .inl (g.2 3, 10, .inr (.inr (.inr (.inr f31))))), (q26, .inr (10, [.ref q30, .int 0, .int 0])), (q1, .inr (11, [.ref q26, w16, w17, w18, w19, w20, w21, w22, w23, w24, w25]))] sz 0 (fun _ => [(q6, .inl (g.2 1, 1, .inr (.inl (vp_updL f113 0 0))))])) 0 0 (va_A [(q6, .inl (g.2 1, 1, .inr (.inl f113))), (q46, .inl (g.2 0, 20, .inl f81)), (q57, .inl (g.2 0, 20, .inl f81)), (q45, .inl (g.2 0, 60, .inl f66)), (q56, .inl (g.2 0, 60, .inl f66)), (q79, .inl (g.2 0, 10, .inl f80)), (q73, .inl (g.2 0, 10, .inl f80)), (q78, .inl (g.2 0, 10, .inl f66)), (q72, .inl (g.2 0, 10, .inl f66)), (q44, .inr (9, [.ref q78, .ref q79, w76, w77])), (q55, .inr (9, [.ref q72, .ref q73, .int 1, .int 0])), (q65, .inl (g.2 0, 40, .inl f67)), (q61, .inl (g.2 0, 40, .inl f67)), (q64, .inl (g.2 0, 384, .inl f66)), (q60, .inl (g.2 0, 384, .inl f66)), (q43, .inr (5, [.ref q64, .ref q65])), (q54, .inr (5, [.ref q60, .ref q61])), (q35, .inr (8, [.ref q54, .ref q55, .ref q56, .ref q57, .int 0, .int 4, .int 0])), (q33, .inr (8, [.ref q43, .ref q44, .ref q45, .ref q46, w40, w41, w42])), (q30, .inl (g.2 3, 10, .inr (.inr (.inr (.inr f31))))), (q26, .inr (10, [.ref q30, .int 0, .int 0])), (q1, .inr (11, [.ref q26, w16, w17, w18, w19, w20, w21, w22, w23, w24, w25]))] sz) := by
  refine ofH (by decide) (Nat.le_of_ble_eq_true rfl) rfl ?_
  intro p e s m args below meth c A ls hAe hsz hx hb hml hr hlocks hin hown hE hP hD hA hS hl htb hz
  have hown : s.vm.findClass RL = some m.cls := hown
  refine lv_aload hx hb dL_addClip_0 (lv_at hl 6 rfl) ?_
  refine lv_iconst (v := 0) hx hb dL_addClip_2 (by decide) ?_
  refine lv_aload_n hx hb dL_addClip_3 rfl (lv_at hl 0 rfl) ?_
  refine lv_iload_n hx hb dL_addClip_4 rfl (lv_at hl 1 rfl) ?_
  refine lv_iload_n hx hb dL_addClip_5 rfl (lv_at hl 2 rfl) ?_
  refine lv_iload_n hx hb dL_addClip_6 rfl (lv_at hl 3 rfl) ?_
  refine lv_iload hx hb dL_addClip_7 (lv_at hl 4 rfl) ?_
  refine lv_iload hx hb dL_addClip_9 (lv_at hl 5 rfl) ?_
  refine g_i (wr := [(q6, .inl (g.2 1, 1, .inr (.inl f113)))]) (rV (rest := [.int 0, .ref q6]) hx hb hml hown hE hP hD 21 rfl rfl (c1556_X9_addClip l g q1 q26 q30 q33 q35 q43 q44 q45 q46 q54 q55 q56 q57 q60 q61 q64 q65 q72 q73 q78 q79 x2 x3 x4 x5 w16 w17 w18 w19 w20 w21 w22 w23 w24 w25 w40 w41 w42 w76 w77 f31 f66 f67 f80 f81 (hf32) (hf34) (hf82) (hf83) (hf84) (hf85) (hf86) (hf87) (hf88) (hf89) (hf90) (hf91) (hf92) (hf93) (hf94) (hf95) (hf96) (hf97) (hf98) (hf99) (hf100) (hf101) (hf102) (hf103) (hf104) (hf105) (hf106) (hf107) (hf108) (hf109) (hf110) (hf111) (hf112) h7 h8 h9 h10 h11 h12 h13 h14 s.heap.size) (kV_X9_addClip hE (e803 hE) rfl rfl ⟨(Nat.le_of_ble_eq_true rfl), (Nat.le_of_ble_eq_true rfl)⟩) [1, 2, 3, 4, 5, 6, 7, 8, 9, 10, 11, 12, 13, 14, 15, 16, 17, 18, 19, 20, 21] rfl (by decide) rfl hl.1 rfl (lv_room (Nat.le_of_ble_eq_true rfl)) dL_addClip_11 ⟨(Nat.le_of_ble_eq_true rfl), (Nat.le_of_ble_eq_true rfl)⟩) hP hD hS hA [1, 2, 3, 4, 5, 6, 7, 8, 9, 10, 11, 12, 13, 14, 15, 16, 17, 18, 19, 20, 21] [0] rfl rfl (by decide) (by decide) (fun u1 H locs hP hD hS => ?_)
  have hP : va_P g.1 vwCl [(q6, .inl (g.2 1, 1, .inr (.inl f113))), (q30, .inl (g.2 3, 10, .inr (.inr (.inr (.inr f31))))), (q35, .inr (8, [.ref q54, .ref q55, .ref q56, .ref q57, .int 0, .int 4, .int 0])), (q54, .inr (5, [.ref q60, .ref q61])), (q64, .inl (g.2 0, 384, .inl f66)), (q60, .inl (g.2 0, 384, .inl f66)), (q61, .inl (g.2 0, 40, .inl f67)), (q44, .inr (9, [.ref q78, .ref q79, .int 1, .int 0])), (q55, .inr (9, [.ref q72, .ref q73, .int 1, .int 0])), (q78, .inl (g.2 0, 10, .inl f66)), (q72, .inl (g.2 0, 10, .inl f66)), (q79, .inl (g.2 0, 10, .inl f80)), (q73, .inl (g.2 0, 10, .inl f80)), (q56, .inl (g.2 0, 60, .inl f66)), (q46, .inl (g.2 0, 20, .inl f81)), (q57, .inl (g.2 0, 20, .inl f81)), (q45, .inl (g.2 0, 60, .inl (upd (upd (upd (upd (upd f66 0 x2) 1 5) 2 x3) 3 x4) 4 x5))), (q65, .inl (g.2 0, 40, .inl (upd (upd (upd (upd (upd (upd (upd (upd (upd f67 1 0) 4 1) 9 1) 14 1) 19 1) 24 1) 29 1) 34 1) 39 1))), (q43, .inr (5, [.ref q64, .ref q65])), (q26, .inr (10, [.ref q30, .int 1, .int 1])), (q1, .inr (11, [.ref q26, w16, w17, w18, w19, w20, w21, w22, .int 0, .int 0, w25])), (q33, .inr (8, [.ref q43, .ref q44, .ref q45, .ref q46, .int 1, .int 4, .int 0]))] H := hP
  have hD : va_D A [(q6, .inl (g.2 1, 1, .inr (.inl f113))), (q30, .inl (g.2 3, 10, .inr (.inr (.inr (.inr f31))))), (q35, .inr (8, [.ref q54, .ref q55, .ref q56, .ref q57, .int 0, .int 4, .int 0])), (q54, .inr (5, [.ref q60, .ref q61])), (q64, .inl (g.2 0, 384, .inl f66)), (q60, .inl (g.2 0, 384, .inl f66)), (q61, .inl (g.2 0, 40, .inl f67)), (q44, .inr (9, [.ref q78, .ref q79, .int 1, .int 0])), (q55, .inr (9, [.ref q72, .ref q73, .int 1, .int 0])), (q78, .inl (g.2 0, 10, .inl f66)), (q72, .inl (g.2 0, 10, .inl f66)), (q79, .inl (g.2 0, 10, .inl f80)), (q73, .inl (g.2 0, 10, .inl f80)), (q56, .inl (g.2 0, 60, .inl f66)), (q46, .inl (g.2 0, 20, .inl f81)), (q57, .inl (g.2 0, 20, .inl f81)), (q45, .inl (g.2 0, 60, .inl (upd (upd (upd (upd (upd f66 0 x2) 1 5) 2 x3) 3 x4) 4 x5))), (q65, .inl (g.2 0, 40, .inl (upd (upd (upd (upd (upd (upd (upd (upd (upd f67 1 0) 4 1) 9 1) 14 1) 19 1) 24 1) 29 1) 34 1) 39 1))), (q43, .inr (5, [.ref q64, .ref q65])), (q26, .inr (10, [.ref q30, .int 1, .int 1])), (q1, .inr (11, [.ref q26, w16, w17, w18, w19, w20, w21, w22, .int 0, .int 0, w25])), (q33, .inr (8, [.ref q43, .ref q44, .ref q45, .ref q46, .int 1, .int 4, .int 0]))] := hD
  refine lv_i2l (v := 0) hx hb dL_addClip_14 (by decide) ?_
  refine x_last (ws' := [(q6, .inl (g.2 1, 1, .inr (.inl (vp_updL f113 0 0)))), (q30, .inl (g.2 3, 10, .inr (.inr (.inr (.inr f31))))), (q35, .inr (8, [.ref q54, .ref q55, .ref q56, .ref q57, .int 0, .int 4, .int 0])), (q54, .inr (5, [.ref q60, .ref q61])), (q64, .inl (g.2 0, 384, .inl f66)), (q60, .inl (g.2 0, 384, .inl f66)), (q61, .inl (g.2 0, 40, .inl f67)), (q44, .inr (9, [.ref q78, .ref q79, .int 1, .int 0])), (q55, .inr (9, [.ref q72, .ref q73, .int 1, .int 0])), (q78, .inl (g.2 0, 10, .inl f66)), (q72, .inl (g.2 0, 10, .inl f66)), (q79, .inl (g.2 0, 10, .inl f80)), (q73, .inl (g.2 0, 10, .inl f80)), (q56, .inl (g.2 0, 60, .inl f66)), (q46, .inl (g.2 0, 20, .inl f81)), (q57, .inl (g.2 0, 20, .inl f81)), (q45, .inl (g.2 0, 60, .inl (upd (upd (upd (upd (upd f66 0 x2) 1 5) 2 x3) 3 x4) 4 x5))), (q65, .inl (g.2 0, 40, .inl (upd (upd (upd (upd (upd (upd (upd (upd (upd f67 1 0) 4 1) 9 1) 14 1) 19 1) 24 1) 29 1) 34 1) 39 1))), (q43, .inr (5, [.ref q64, .ref q65])), (q26, .inr (10, [.ref q30, .int 1, .int 1])), (q1, .inr (11, [.ref q26, w16, w17, w18, w19, w20, w21, w22, .int 0, .int 0, w25])), (q33, .inr (8, [.ref q43, .ref q44, .ref q45, .ref q46, .int 1, .int 4, .int 0]))]) hx hb hE hP hD hS 0 rfl 0 (x_in (by decide)) (by decide) dL_addClip_15 rfl (fun H locs hP hD hS => ?_)
  refine lv_goto (tgt := 27) hx hb dL_addClip_16 (by decide) ?_
  refine lv_iconst (v := 0) hx hb dL_addClip_27 (by decide) ?_
  exact x_zret hx hb hr rfl rfl hlocks hP hD hS hAe hsz (Nat.le_of_ble_eq_true rfl) (Nat.le_of_ble_eq_true rfl) (fun _ => 0) [0] (by decide) rfl dL_addClip_28

set_option maxHeartbeats 4000000 in
set_option maxRecDepth 100000 in
theorem c1558_X10_ofClip (l : Launch) (g : gG) (q1 q39 : Nat) (w3 w4 w5 w6 w7 w8 w9 w10 w11 w12 w13 w14 w15 w16 w17 w18 w19 w20 w21 w22 w23 w24 w25 w26 w27 w28 w29 w30 w31 w32 w33 w34 w35 w36 w37 w38 : Value) (f40 : Nat → Int32) (hf41 : f40 394 = 5) (sz : Nat) : Met l yX10_ofClip [Cond.code yX10_ofClip cX10_ofClip 3 (some .int)] ({ frames := 0, cells := 0, slots := 0, locals := 0 } : Room) (va_Pc [.ref q1, .int 0, .int 1] (PX g sz [(q39, .inl (g.2 0, 497, .inl f40)), (q1, .inr (12, [.ref q39, w3, w4, w5, w6, w7, w8, w9, w10, w11, w12, w13, w14, w15, w16, w17, w18, w19, w20, w21, w22, w23, w24, w25, w26, w27, w28, w29, w30, w31, w32, w33, w34, w35, w36, w37, w38]))])) (QI g [(q39, .inl (g.2 0, 497, .inl f40)), (q1, .inr (12, [.ref q39, w3, w4, w5, w6, w7, w8, w9, w10, w11, w12, w13, w14, w15, w16, w17, w18, w19, w20, w21, w22, w23, w24, w25, w26, w27, w28, w29, w30, w31, w32, w33, w34, w35, w36, w37, w38]))] sz 5 (fun _ => [(q39, .inl (g.2 0, 497, .inl f40)), (q1, .inr (12, [.ref q39, w3, w4, w5, w6, w7, w8, w9, w10, w11, w12, w13, w14, w15, w16, w17, w18, w19, w20, w21, w22, w23, w24, w25, w26, w27, w28, w29, w30, w31, w32, w33, w34, w35, w36, w37, w38]))])) 0 0 (va_A [(q39, .inl (g.2 0, 497, .inl f40)), (q1, .inr (12, [.ref q39, w3, w4, w5, w6, w7, w8, w9, w10, w11, w12, w13, w14, w15, w16, w17, w18, w19, w20, w21, w22, w23, w24, w25, w26, w27, w28, w29, w30, w31, w32, w33, w34, w35, w36, w37, w38]))] sz) := by
  refine ofN (by decide) (Nat.le_of_ble_eq_true rfl) rfl ?_
  intro p e s m args below meth c A ls hAe hsz hx hb hml hr hlocks hin hown hE hP hD hA hS hl
  have hown : s.vm.findClass RX10 = some m.cls := hown
  refine lv_aload_n hx hb dX10_ofClip_0 rfl (lv_at hl 0 rfl) ?_
  refine gf_RX10_9 hx hb hown hE hP 1 rfl rfl dX10_ofClip_1 ?_
  refine lv_sipush (v := 393) hx hb dX10_ofClip_4 (by decide) ?_
  refine lv_iconst (v := 5) hx hb dX10_ofClip_7 (by decide) ?_
  refine lv_iload_n hx hb dX10_ofClip_8 rfl (lv_at hl 1 rfl) ?_
  refine x_imul (v := 0) hx hb dX10_ofClip_9 (by decide) ?_
  refine x_iadd (v := 393) hx hb dX10_ofClip_10 (by decide) ?_
  refine lv_iload_n hx hb dX10_ofClip_11 rfl (lv_at hl 2 rfl) ?_
  refine x_iadd (v := 394) hx hb dX10_ofClip_12 (by decide) ?_
  refine x_iald (v := 5) hx hb hE hP 0 rfl 394 (x_in (by decide)) (by decide) hf41 dX10_ofClip_13 ?_
  exact x_zret hx hb hr rfl rfl hlocks hP hD hS hAe hsz (Nat.le_of_ble_eq_true rfl) (Nat.le_of_ble_eq_true rfl) (fun _ => 0) [0, 1] (by decide) rfl dX10_ofClip_14

set_option maxHeartbeats 4000000 in
set_option maxRecDepth 100000 in
theorem c1559_X10_isTooGreat (l : Launch) (g : gG) (q1 q39 q40 q41 : Nat) (x62 : Int32) (w3 w4 w5 w6 w7 w8 w11 w12 w13 w14 w15 w16 w17 w18 w19 w20 w21 w22 w23 w24 w25 w26 w27 w28 w29 w30 w31 w32 w33 w34 w35 w36 w37 w38 : Value) (f42 : Nat → Int32) (f51 : Nat → Int32) (hf43 : f42 0 = 0) (hf44 : f42 49 = 0) (hf45 : f42 98 = 0) (hf46 : f42 147 = 0) (hf47 : f42 196 = 0) (hf48 : f42 245 = 0) (hf49 : f42 294 = 0) (hf50 : f42 343 = 0) (hf52 : f51 0 = 0) (hf53 : f51 1 = 0) (hf54 : f51 2 = 0) (hf55 : f51 3 = 0) (hf56 : f51 4 = 0) (hf57 : f51 5 = 0) (hf58 : f51 6 = 0) (hf59 : f51 7 = 0) (hf60 : f42 392 = 1) (hf61 : f42 395 = x62) (hf63 : f42 394 = 5) (sz : Nat) : Met l yX10_isTooGreat [Cond.code yX10_isTooGreat cX10_isTooGreat 4 (some .boolean)] ({ frames := 3, cells := 0, slots := 0, locals := 66 } : Room) (va_Pc [.ref q1] (PX g sz [(q41, .inl (g.2 0, 8, .inl f51)), (q40, .inl (g.2 0, 8, .inl f51)), (q39, .inl (g.2 0, 497, .inl f42)), (q1, .inr (12, [.ref q39, w3, w4, w5, w6, w7, w8, .ref q40, .ref q41, w11, w12, w13, w14, w15, w16, w17, w18, w19, w20, w21, w22, w23, w24, w25, w26, w27, w28, w29, w30, w31, w32, w33, w34, w35, w36, w37, w38]))])) (QI g [(q41, .inl (g.2 0, 8, .inl f51)), (q40, .inl (g.2 0, 8, .inl f51)), (q39, .inl (g.2 0, 497, .inl f42)), (q1, .inr (12, [.ref q39, w3, w4, w5, w6, w7, w8, .ref q40, .ref q41, w11, w12, w13, w14, w15, w16, w17, w18, w19, w20, w21, w22, w23, w24, w25, w26, w27, w28, w29, w30, w31, w32, w33, w34, w35, w36, w37, w38]))] sz 0 (fun _ => [(q41, .inl (g.2 0, 8, .inl f51)), (q40, .inl (g.2 0, 8, .inl f51)), (q39, .inl (g.2 0, 497, .inl f42)), (q1, .inr (12, [.ref q39, w3, w4, w5, w6, w7, w8, .ref q40, .ref q41, w11, w12, w13, w14, w15, w16, w17, w18, w19, w20, w21, w22, w23, w24, w25, w26, w27, w28, w29, w30, w31, w32, w33, w34, w35, w36, w37, w38]))])) 0 0 (va_A [(q41, .inl (g.2 0, 8, .inl f51)), (q40, .inl (g.2 0, 8, .inl f51)), (q39, .inl (g.2 0, 497, .inl f42)), (q1, .inr (12, [.ref q39, w3, w4, w5, w6, w7, w8, .ref q40, .ref q41, w11, w12, w13, w14, w15, w16, w17, w18, w19, w20, w21, w22, w23, w24, w25, w26, w27, w28, w29, w30, w31, w32, w33, w34, w35, w36, w37, w38]))] sz) := by
  refine ofN (by decide) (Nat.le_of_ble_eq_true rfl) rfl ?_
  intro p e s m args below meth c A ls hAe hsz hx hb hml hr hlocks hin hown hE hP hD hA hS hl
  have hown : s.vm.findClass RX10 = some m.cls := hown
  refine lv_aload_n hx hb dX10_isTooGreat_0 rfl (lv_at hl 0 rfl) ?_
  refine g_v (wr := []) (rV (rest := []) hx hb hml hown hE hP hD 3 rfl rfl (c1241_X10_layLengths l g q1 q39 q40 q41 w3 w4 w5 w6 w7 w8 w11 w12 w13 w14 w15 w16 w17 w18 w19 w20 w21 w22 w23 w24 w25 w26 w27 w28 w29 w30 w31 w32 w33 w34 w35 w36 w37 w38 f42 f51 (hf43) (hf52) (hf44) (hf53) (hf45) (hf54) (hf46) (hf55) (hf47) (hf56) (hf48) (hf57) (hf49) (hf58) (hf50) (hf59) s.heap.size) (kV_X10_layLengths hE (e1452 hE) rfl rfl ⟨(Nat.le_of_ble_eq_true rfl), (Nat.le_of_ble_eq_true rfl)⟩) [0, 1, 2, 3] rfl (by decide) rfl hl.1 rfl (lv_room (Nat.le_of_ble_eq_true rfl)) dX10_isTooGreat_1 ⟨(Nat.le_of_ble_eq_true rfl), (Nat.le_of_ble_eq_true rfl)⟩) hP hD hS hA [0, 1, 2, 3] [] rfl rfl (by decide) (by decide) (fun u1 H locs hP hD hS => ?_)
  have hP : va_P g.1 vwCl [(q41, .inl (g.2 0, 8, .inl f51)), (q40, .inl (g.2 0, 8, .inl f51)), (q39, .inl (g.2 0, 497, .inl f42)), (q1, .inr (12, [.ref q39, w3, w4, w5, w6, w7, w8, .ref q40, .ref q41, w11, w12, w13, w14, w15, w16, w17, w18, w19, w20, w21, w22, w23, w24, w25, w26, w27, w28, w29, w30, w31, w32, w33, w34, w35, w36, w37, w38]))] H := hP
  have hD : va_D A [(q41, .inl (g.2 0, 8, .inl f51)), (q40, .inl (g.2 0, 8, .inl f51)), (q39, .inl (g.2 0, 497, .inl f42)), (q1, .inr (12, [.ref q39, w3, w4, w5, w6, w7, w8, .ref q40, .ref q41, w11, w12, w13, w14, w15, w16, w17, w18, w19, w20, w21, w22, w23, w24, w25, w26, w27, w28, w29, w30, w31, w32, w33, w34, w35, w36, w37, w38]))] := hD
  refine lv_iconst (v := 0) hx hb dX10_isTooGreat_4 (by decide) ?_
  refine lv_istore_n (lv' := [(1, .int 0), (0, .ref q1)]) hx hb dX10_isTooGreat_5 rfl hl (by decide) rfl (fun ls hl => ?_)
  refine lv_iconst (v := 0) hx hb dX10_isTooGreat_6 (by decide) ?_
  refine lv_istore_n (lv' := [(2, .int 0), (1, .int 0), (0, .ref q1)]) hx hb dX10_isTooGreat_7 rfl hl (by decide) rfl (fun ls hl => ?_)
  refine lv_iload_n hx hb dX10_isTooGreat_8 rfl (lv_at hl 0 rfl) ?_
  refine lv_bipush (v := 8) hx hb dX10_isTooGreat_9 (by decide) ?_
  refine lv_icmp_ge (tgt := 40) hx hb dX10_isTooGreat_11 (by decide) (fun h => absurd h (by decide)) (fun _ => ?_)
  refine lv_iload_n hx hb dX10_isTooGreat_14 rfl (lv_at hl 1 rfl) ?_
  refine lv_aload_n hx hb dX10_isTooGreat_15 rfl (lv_at hl 2 rfl) ?_
  refine gf_RX10_22 hx hb hown hE hP 3 rfl rfl dX10_isTooGreat_16 ?_
  refine lv_iload_n hx hb dX10_isTooGreat_19 rfl (lv_at hl 0 rfl) ?_
  refine x_iald (v := 0) hx hb hE hP 1 rfl 0 (x_in (by decide)) (by decide) hf52 dX10_isTooGreat_20 ?_
  refine lv_sipush (v := 20000) hx hb dX10_isTooGreat_21 (by decide) ?_
  refine lv_icmp_le (tgt := 31) hx hb dX10_isTooGreat_24 (by decide) (fun _ => ?_) (fun h => absurd (by decide) h)
  refine lv_iconst (v := 0) hx hb dX10_isTooGreat_31 (by decide) ?_
  refine x_ior (v := 0) hx hb dX10_isTooGreat_32 (by decide) ?_
  refine lv_istore_n (lv' := [(1, .int 0), (2, .int 0), (0, .ref q1)]) hx hb dX10_isTooGreat_33 rfl hl (by decide) rfl (fun ls hl => ?_)
  refine lv_iinc (v := 1) (lv' := [(2, .int 1), (1, .int 0), (0, .ref q1)]) hx hb dX10_isTooGreat_34 hl (k := 1) rfl (by decide) (by decide) rfl (fun ls hl => ?_)
  refine lv_goto (tgt := 8) hx hb dX10_isTooGreat_37 (by decide) ?_
  refine lv_iload_n hx hb dX10_isTooGreat_8 rfl (lv_at hl 0 rfl) ?_
  refine lv_bipush (v := 8) hx hb dX10_isTooGreat_9 (by decide) ?_
  refine lv_icmp_ge (tgt := 40) hx hb dX10_isTooGreat_11 (by decide) (fun h => absurd h (by decide)) (fun _ => ?_)
  refine lv_iload_n hx hb dX10_isTooGreat_14 rfl (lv_at hl 1 rfl) ?_
  refine lv_aload_n hx hb dX10_isTooGreat_15 rfl (lv_at hl 2 rfl) ?_
  refine gf_RX10_22 hx hb hown hE hP 3 rfl rfl dX10_isTooGreat_16 ?_
  refine lv_iload_n hx hb dX10_isTooGreat_19 rfl (lv_at hl 0 rfl) ?_
  refine x_iald (v := 0) hx hb hE hP 1 rfl 1 (x_in (by decide)) (by decide) hf53 dX10_isTooGreat_20 ?_
  refine lv_sipush (v := 20000) hx hb dX10_isTooGreat_21 (by decide) ?_
  refine lv_icmp_le (tgt := 31) hx hb dX10_isTooGreat_24 (by decide) (fun _ => ?_) (fun h => absurd (by decide) h)
  refine lv_iconst (v := 0) hx hb dX10_isTooGreat_31 (by decide) ?_
  refine x_ior (v := 0) hx hb dX10_isTooGreat_32 (by decide) ?_
  refine lv_istore_n (lv' := [(1, .int 0), (2, .int 1), (0, .ref q1)]) hx hb dX10_isTooGreat_33 rfl hl (by decide) rfl (fun ls hl => ?_)
  refine lv_iinc (v := 2) (lv' := [(2, .int 2), (1, .int 0), (0, .ref q1)]) hx hb dX10_isTooGreat_34 hl (k := 1) rfl (by decide) (by decide) rfl (fun ls hl => ?_)
  refine lv_goto (tgt := 8) hx hb dX10_isTooGreat_37 (by decide) ?_
  refine lv_iload_n hx hb dX10_isTooGreat_8 rfl (lv_at hl 0 rfl) ?_
  refine lv_bipush (v := 8) hx hb dX10_isTooGreat_9 (by decide) ?_
  refine lv_icmp_ge (tgt := 40) hx hb dX10_isTooGreat_11 (by decide) (fun h => absurd h (by decide)) (fun _ => ?_)
  refine lv_iload_n hx hb dX10_isTooGreat_14 rfl (lv_at hl 1 rfl) ?_
  refine lv_aload_n hx hb dX10_isTooGreat_15 rfl (lv_at hl 2 rfl) ?_
  refine gf_RX10_22 hx hb hown hE hP 3 rfl rfl dX10_isTooGreat_16 ?_
  refine lv_iload_n hx hb dX10_isTooGreat_19 rfl (lv_at hl 0 rfl) ?_
  refine x_iald (v := 0) hx hb hE hP 1 rfl 2 (x_in (by decide)) (by decide) hf54 dX10_isTooGreat_20 ?_
  refine lv_sipush (v := 20000) hx hb dX10_isTooGreat_21 (by decide) ?_
  refine lv_icmp_le (tgt := 31) hx hb dX10_isTooGreat_24 (by decide) (fun _ => ?_) (fun h => absurd (by decide) h)
  refine lv_iconst (v := 0) hx hb dX10_isTooGreat_31 (by decide) ?_
  refine x_ior (v := 0) hx hb dX10_isTooGreat_32 (by decide) ?_
  refine lv_istore_n (lv' := [(1, .int 0), (2, .int 2), (0, .ref q1)]) hx hb dX10_isTooGreat_33 rfl hl (by decide) rfl (fun ls hl => ?_)
  refine lv_iinc (v := 3) (lv' := [(2, .int 3), (1, .int 0), (0, .ref q1)]) hx hb dX10_isTooGreat_34 hl (k := 1) rfl (by decide) (by decide) rfl (fun ls hl => ?_)
  refine lv_goto (tgt := 8) hx hb dX10_isTooGreat_37 (by decide) ?_
  refine lv_iload_n hx hb dX10_isTooGreat_8 rfl (lv_at hl 0 rfl) ?_
  refine lv_bipush (v := 8) hx hb dX10_isTooGreat_9 (by decide) ?_
  refine lv_icmp_ge (tgt := 40) hx hb dX10_isTooGreat_11 (by decide) (fun h => absurd h (by decide)) (fun _ => ?_)
  refine lv_iload_n hx hb dX10_isTooGreat_14 rfl (lv_at hl 1 rfl) ?_
  refine lv_aload_n hx hb dX10_isTooGreat_15 rfl (lv_at hl 2 rfl) ?_
  refine gf_RX10_22 hx hb hown hE hP 3 rfl rfl dX10_isTooGreat_16 ?_
  refine lv_iload_n hx hb dX10_isTooGreat_19 rfl (lv_at hl 0 rfl) ?_
  refine x_iald (v := 0) hx hb hE hP 1 rfl 3 (x_in (by decide)) (by decide) hf55 dX10_isTooGreat_20 ?_
  refine lv_sipush (v := 20000) hx hb dX10_isTooGreat_21 (by decide) ?_
  refine lv_icmp_le (tgt := 31) hx hb dX10_isTooGreat_24 (by decide) (fun _ => ?_) (fun h => absurd (by decide) h)
  refine lv_iconst (v := 0) hx hb dX10_isTooGreat_31 (by decide) ?_
  refine x_ior (v := 0) hx hb dX10_isTooGreat_32 (by decide) ?_
  refine lv_istore_n (lv' := [(1, .int 0), (2, .int 3), (0, .ref q1)]) hx hb dX10_isTooGreat_33 rfl hl (by decide) rfl (fun ls hl => ?_)
  refine lv_iinc (v := 4) (lv' := [(2, .int 4), (1, .int 0), (0, .ref q1)]) hx hb dX10_isTooGreat_34 hl (k := 1) rfl (by decide) (by decide) rfl (fun ls hl => ?_)
  refine lv_goto (tgt := 8) hx hb dX10_isTooGreat_37 (by decide) ?_
  refine lv_iload_n hx hb dX10_isTooGreat_8 rfl (lv_at hl 0 rfl) ?_
  refine lv_bipush (v := 8) hx hb dX10_isTooGreat_9 (by decide) ?_
  refine lv_icmp_ge (tgt := 40) hx hb dX10_isTooGreat_11 (by decide) (fun h => absurd h (by decide)) (fun _ => ?_)
  refine lv_iload_n hx hb dX10_isTooGreat_14 rfl (lv_at hl 1 rfl) ?_
  refine lv_aload_n hx hb dX10_isTooGreat_15 rfl (lv_at hl 2 rfl) ?_
  refine gf_RX10_22 hx hb hown hE hP 3 rfl rfl dX10_isTooGreat_16 ?_
  refine lv_iload_n hx hb dX10_isTooGreat_19 rfl (lv_at hl 0 rfl) ?_
  refine x_iald (v := 0) hx hb hE hP 1 rfl 4 (x_in (by decide)) (by decide) hf56 dX10_isTooGreat_20 ?_
  refine lv_sipush (v := 20000) hx hb dX10_isTooGreat_21 (by decide) ?_
  refine lv_icmp_le (tgt := 31) hx hb dX10_isTooGreat_24 (by decide) (fun _ => ?_) (fun h => absurd (by decide) h)
  refine lv_iconst (v := 0) hx hb dX10_isTooGreat_31 (by decide) ?_
  refine x_ior (v := 0) hx hb dX10_isTooGreat_32 (by decide) ?_
  refine lv_istore_n (lv' := [(1, .int 0), (2, .int 4), (0, .ref q1)]) hx hb dX10_isTooGreat_33 rfl hl (by decide) rfl (fun ls hl => ?_)
  refine lv_iinc (v := 5) (lv' := [(2, .int 5), (1, .int 0), (0, .ref q1)]) hx hb dX10_isTooGreat_34 hl (k := 1) rfl (by decide) (by decide) rfl (fun ls hl => ?_)
  refine lv_goto (tgt := 8) hx hb dX10_isTooGreat_37 (by decide) ?_
  refine lv_iload_n hx hb dX10_isTooGreat_8 rfl (lv_at hl 0 rfl) ?_
  refine lv_bipush (v := 8) hx hb dX10_isTooGreat_9 (by decide) ?_
  refine lv_icmp_ge (tgt := 40) hx hb dX10_isTooGreat_11 (by decide) (fun h => absurd h (by decide)) (fun _ => ?_)
  refine lv_iload_n hx hb dX10_isTooGreat_14 rfl (lv_at hl 1 rfl) ?_
  refine lv_aload_n hx hb dX10_isTooGreat_15 rfl (lv_at hl 2 rfl) ?_
  refine gf_RX10_22 hx hb hown hE hP 3 rfl rfl dX10_isTooGreat_16 ?_
  refine lv_iload_n hx hb dX10_isTooGreat_19 rfl (lv_at hl 0 rfl) ?_
  refine x_iald (v := 0) hx hb hE hP 1 rfl 5 (x_in (by decide)) (by decide) hf57 dX10_isTooGreat_20 ?_
  refine lv_sipush (v := 20000) hx hb dX10_isTooGreat_21 (by decide) ?_
  refine lv_icmp_le (tgt := 31) hx hb dX10_isTooGreat_24 (by decide) (fun _ => ?_) (fun h => absurd (by decide) h)
  refine lv_iconst (v := 0) hx hb dX10_isTooGreat_31 (by decide) ?_
  refine x_ior (v := 0) hx hb dX10_isTooGreat_32 (by decide) ?_
  refine lv_istore_n (lv' := [(1, .int 0), (2, .int 5), (0, .ref q1)]) hx hb dX10_isTooGreat_33 rfl hl (by decide) rfl (fun ls hl => ?_)
  refine lv_iinc (v := 6) (lv' := [(2, .int 6), (1, .int 0), (0, .ref q1)]) hx hb dX10_isTooGreat_34 hl (k := 1) rfl (by decide) (by decide) rfl (fun ls hl => ?_)
  refine lv_goto (tgt := 8) hx hb dX10_isTooGreat_37 (by decide) ?_
  refine lv_iload_n hx hb dX10_isTooGreat_8 rfl (lv_at hl 0 rfl) ?_
  refine lv_bipush (v := 8) hx hb dX10_isTooGreat_9 (by decide) ?_
  refine lv_icmp_ge (tgt := 40) hx hb dX10_isTooGreat_11 (by decide) (fun h => absurd h (by decide)) (fun _ => ?_)
  refine lv_iload_n hx hb dX10_isTooGreat_14 rfl (lv_at hl 1 rfl) ?_
  refine lv_aload_n hx hb dX10_isTooGreat_15 rfl (lv_at hl 2 rfl) ?_
  refine gf_RX10_22 hx hb hown hE hP 3 rfl rfl dX10_isTooGreat_16 ?_
  refine lv_iload_n hx hb dX10_isTooGreat_19 rfl (lv_at hl 0 rfl) ?_
  refine x_iald (v := 0) hx hb hE hP 1 rfl 6 (x_in (by decide)) (by decide) hf58 dX10_isTooGreat_20 ?_
  refine lv_sipush (v := 20000) hx hb dX10_isTooGreat_21 (by decide) ?_
  refine lv_icmp_le (tgt := 31) hx hb dX10_isTooGreat_24 (by decide) (fun _ => ?_) (fun h => absurd (by decide) h)
  refine lv_iconst (v := 0) hx hb dX10_isTooGreat_31 (by decide) ?_
  refine x_ior (v := 0) hx hb dX10_isTooGreat_32 (by decide) ?_
  refine lv_istore_n (lv' := [(1, .int 0), (2, .int 6), (0, .ref q1)]) hx hb dX10_isTooGreat_33 rfl hl (by decide) rfl (fun ls hl => ?_)
  refine lv_iinc (v := 7) (lv' := [(2, .int 7), (1, .int 0), (0, .ref q1)]) hx hb dX10_isTooGreat_34 hl (k := 1) rfl (by decide) (by decide) rfl (fun ls hl => ?_)
  refine lv_goto (tgt := 8) hx hb dX10_isTooGreat_37 (by decide) ?_
  refine lv_iload_n hx hb dX10_isTooGreat_8 rfl (lv_at hl 0 rfl) ?_
  refine lv_bipush (v := 8) hx hb dX10_isTooGreat_9 (by decide) ?_
  refine lv_icmp_ge (tgt := 40) hx hb dX10_isTooGreat_11 (by decide) (fun h => absurd h (by decide)) (fun _ => ?_)
  refine lv_iload_n hx hb dX10_isTooGreat_14 rfl (lv_at hl 1 rfl) ?_
  refine lv_aload_n hx hb dX10_isTooGreat_15 rfl (lv_at hl 2 rfl) ?_
  refine gf_RX10_22 hx hb hown hE hP 3 rfl rfl dX10_isTooGreat_16 ?_
  refine lv_iload_n hx hb dX10_isTooGreat_19 rfl (lv_at hl 0 rfl) ?_
  refine x_iald (v := 0) hx hb hE hP 1 rfl 7 (x_in (by decide)) (by decide) hf59 dX10_isTooGreat_20 ?_
  refine lv_sipush (v := 20000) hx hb dX10_isTooGreat_21 (by decide) ?_
  refine lv_icmp_le (tgt := 31) hx hb dX10_isTooGreat_24 (by decide) (fun _ => ?_) (fun h => absurd (by decide) h)
  refine lv_iconst (v := 0) hx hb dX10_isTooGreat_31 (by decide) ?_
  refine x_ior (v := 0) hx hb dX10_isTooGreat_32 (by decide) ?_
  refine lv_istore_n (lv' := [(1, .int 0), (2, .int 7), (0, .ref q1)]) hx hb dX10_isTooGreat_33 rfl hl (by decide) rfl (fun ls hl => ?_)
  refine lv_iinc (v := 8) (lv' := [(2, .int 8), (1, .int 0), (0, .ref q1)]) hx hb dX10_isTooGreat_34 hl (k := 1) rfl (by decide) (by decide) rfl (fun ls hl => ?_)
  refine lv_goto (tgt := 8) hx hb dX10_isTooGreat_37 (by decide) ?_
  refine lv_iload_n hx hb dX10_isTooGreat_8 rfl (lv_at hl 0 rfl) ?_
  refine lv_bipush (v := 8) hx hb dX10_isTooGreat_9 (by decide) ?_
  refine lv_icmp_ge (tgt := 40) hx hb dX10_isTooGreat_11 (by decide) (fun _ => ?_) (fun h => absurd (by decide) h)
  refine lv_iconst (v := 0) hx hb dX10_isTooGreat_40 (by decide) ?_
  refine lv_istore_n (lv' := [(2, .int 0), (1, .int 0), (0, .ref q1)]) hx hb dX10_isTooGreat_41 rfl hl (by decide) rfl (fun ls hl => ?_)
  refine lv_iconst (v := 0) hx hb dX10_isTooGreat_42 (by decide) ?_
  refine lv_istore_n (lv' := [(3, .int 0), (2, .int 0), (1, .int 0), (0, .ref q1)]) hx hb dX10_isTooGreat_43 rfl hl (by decide) rfl (fun ls hl => ?_)
  refine lv_iload_n hx hb dX10_isTooGreat_44 rfl (lv_at hl 0 rfl) ?_
  refine lv_aload_n hx hb dX10_isTooGreat_45 rfl (lv_at hl 3 rfl) ?_
  refine gf_RX10_9 hx hb hown hE hP 3 rfl rfl dX10_isTooGreat_46 ?_
  refine lv_sipush (v := 392) hx hb dX10_isTooGreat_49 (by decide) ?_
  refine x_iald (v := 1) hx hb hE hP 2 rfl 392 (x_in (by decide)) (by decide) hf60 dX10_isTooGreat_52 ?_
  refine lv_icmp_ge (tgt := 115) hx hb dX10_isTooGreat_53 (by decide) (fun h => absurd h (by decide)) (fun _ => ?_)
  refine lv_iload_n hx hb dX10_isTooGreat_56 rfl (lv_at hl 2 rfl) ?_
  refine lv_aload_n hx hb dX10_isTooGreat_57 rfl (lv_at hl 3 rfl) ?_
  refine lv_iload_n hx hb dX10_isTooGreat_58 rfl (lv_at hl 0 rfl) ?_
  refine lv_iconst (v := 2) hx hb dX10_isTooGreat_59 (by decide) ?_
  refine g_i (wr := [(q41, .inl (g.2 0, 8, .inl f51)), (q40, .inl (g.2 0, 8, .inl f51))]) (rV (rest := [.int 0]) hx hb hml hown hE hP hD 3 rfl rfl (c1512_X10_ofClip l g q1 q39 x62 w3 w4 w5 w6 w7 w8 (.ref q40) (.ref q41) w11 w12 w13 w14 w15 w16 w17 w18 w19 w20 w21 w22 w23 w24 w25 w26 w27 w28 w29 w30 w31 w32 w33 w34 w35 w36 w37 w38 f42 (hf61) H.size) (kV_X10_ofClip hE (e1466 hE) rfl rfl ⟨(Nat.le_of_ble_eq_true rfl), (Nat.le_of_ble_eq_true rfl)⟩) [2, 3] rfl (by decide) rfl hl.1 rfl (lv_room (Nat.le_of_ble_eq_true rfl)) dX10_isTooGreat_60 ⟨(Nat.le_of_ble_eq_true rfl), (Nat.le_of_ble_eq_true rfl)⟩) hP hD hS hA [2, 3] [0, 1] rfl rfl (by decide) (by decide) (fun u2 H locs hP hD hS => ?_)
  have hP : va_P g.1 vwCl [(q41, .inl (g.2 0, 8, .inl f51)), (q40, .inl (g.2 0, 8, .inl f51)), (q39, .inl (g.2 0, 497, .inl f42)), (q1, .inr (12, [.ref q39, w3, w4, w5, w6, w7, w8, .ref q40, .ref q41, w11, w12, w13, w14, w15, w16, w17, w18, w19, w20, w21, w22, w23, w24, w25, w26, w27, w28, w29, w30, w31, w32, w33, w34, w35, w36, w37, w38]))] H := hP
  have hD : va_D A [(q41, .inl (g.2 0, 8, .inl f51)), (q40, .inl (g.2 0, 8, .inl f51)), (q39, .inl (g.2 0, 497, .inl f42)), (q1, .inr (12, [.ref q39, w3, w4, w5, w6, w7, w8, .ref q40, .ref q41, w11, w12, w13, w14, w15, w16, w17, w18, w19, w20, w21, w22, w23, w24, w25, w26, w27, w28, w29, w30, w31, w32, w33, w34, w35, w36, w37, w38]))] := hD
  refine lv_aload_n hx hb dX10_isTooGreat_63 rfl (lv_at hl 3 rfl) ?_
  refine gf_RX10_22 hx hb hown hE hP 3 rfl rfl dX10_isTooGreat_64 ?_
  refine lv_aload_n hx hb dX10_isTooGreat_67 rfl (lv_at hl 3 rfl) ?_
  refine lv_iload_n hx hb dX10_isTooGreat_68 rfl (lv_at hl 0 rfl) ?_
  refine lv_iconst (v := 1) hx hb dX10_isTooGreat_69 (by decide) ?_
  refine g_i (wr := [(q41, .inl (g.2 0, 8, .inl f51)), (q40, .inl (g.2 0, 8, .inl f51))]) (rV (rest := [.ref q40, .int x62, .int 0]) hx hb hml hown hE hP hD 3 rfl rfl (c1558_X10_ofClip l g q1 q39 w3 w4 w5 w6 w7 w8 (.ref q40) (.ref q41) w11 w12 w13 w14 w15 w16 w17 w18 w19 w20 w21 w22 w23 w24 w25 w26 w27 w28 w29 w30 w31 w32 w33 w34 w35 w36 w37 w38 f42 (hf63) H.size) (kV_X10_ofClip hE (e1466 hE) rfl rfl ⟨(Nat.le_of_ble_eq_true rfl), (Nat.le_of_ble_eq_true rfl)⟩) [2, 3] rfl (by decide) rfl hl.1 rfl (lv_room (Nat.le_of_ble_eq_true rfl)) dX10_isTooGreat_70 ⟨(Nat.le_of_ble_eq_true rfl), (Nat.le_of_ble_eq_true rfl)⟩) hP hD hS hA [2, 3] [0, 1] rfl rfl (by decide) (by decide) (fun u3 H locs hP hD hS => ?_)
  have hP : va_P g.1 vwCl [(q41, .inl (g.2 0, 8, .inl f51)), (q40, .inl (g.2 0, 8, .inl f51)), (q39, .inl (g.2 0, 497, .inl f42)), (q1, .inr (12, [.ref q39, w3, w4, w5, w6, w7, w8, .ref q40, .ref q41, w11, w12, w13, w14, w15, w16, w17, w18, w19, w20, w21, w22, w23, w24, w25, w26, w27, w28, w29, w30, w31, w32, w33, w34, w35, w36, w37, w38]))] H := hP
  have hD : va_D A [(q41, .inl (g.2 0, 8, .inl f51)), (q40, .inl (g.2 0, 8, .inl f51)), (q39, .inl (g.2 0, 497, .inl f42)), (q1, .inr (12, [.ref q39, w3, w4, w5, w6, w7, w8, .ref q40, .ref q41, w11, w12, w13, w14, w15, w16, w17, w18, w19, w20, w21, w22, w23, w24, w25, w26, w27, w28, w29, w30, w31, w32, w33, w34, w35, w36, w37, w38]))] := hD
  refine x_iald (v := 0) hx hb hE hP 1 rfl 5 (x_in (by decide)) (by decide) hf57 dX10_isTooGreat_73 ?_
  refine x_imul (v := 0) hx hb dX10_isTooGreat_74 (Int32.mul_zero) ?_
  refine lv_sipush (v := 20000) hx hb dX10_isTooGreat_75 (by decide) ?_
  refine lv_icmp_le (tgt := 85) hx hb dX10_isTooGreat_78 (by decide) (fun _ => ?_) (fun h => absurd (by decide) h)
  refine lv_iconst (v := 0) hx hb dX10_isTooGreat_85 (by decide) ?_
  refine x_ior (v := 0) hx hb dX10_isTooGreat_86 (by decide) ?_
  refine lv_istore_n (lv' := [(1, .int 0), (3, .int 0), (2, .int 0), (0, .ref q1)]) hx hb dX10_isTooGreat_87 rfl hl (by decide) rfl (fun ls hl => ?_)
  refine lv_iload_n hx hb dX10_isTooGreat_88 rfl (lv_at hl 2 rfl) ?_
  refine lv_aload_n hx hb dX10_isTooGreat_89 rfl (lv_at hl 3 rfl) ?_
  refine lv_iload_n hx hb dX10_isTooGreat_90 rfl (lv_at hl 1 rfl) ?_
  refine lv_iconst (v := 2) hx hb dX10_isTooGreat_91 (by decide) ?_
  refine g_i (wr := [(q41, .inl (g.2 0, 8, .inl f51)), (q40, .inl (g.2 0, 8, .inl f51))]) (rV (rest := [.int 0]) hx hb hml hown hE hP hD 3 rfl rfl (c1512_X10_ofClip l g q1 q39 x62 w3 w4 w5 w6 w7 w8 (.ref q40) (.ref q41) w11 w12 w13 w14 w15 w16 w17 w18 w19 w20 w21 w22 w23 w24 w25 w26 w27 w28 w29 w30 w31 w32 w33 w34 w35 w36 w37 w38 f42 (hf61) H.size) (kV_X10_ofClip hE (e1466 hE) rfl rfl ⟨(Nat.le_of_ble_eq_true rfl), (Nat.le_of_ble_eq_true rfl)⟩) [2, 3] rfl (by decide) rfl hl.1 rfl (lv_room (Nat.le_of_ble_eq_true rfl)) dX10_isTooGreat_92 ⟨(Nat.le_of_ble_eq_true rfl), (Nat.le_of_ble_eq_true rfl)⟩) hP hD hS hA [2, 3] [0, 1] rfl rfl (by decide) (by decide) (fun u4 H locs hP hD hS => ?_)
  have hP : va_P g.1 vwCl [(q41, .inl (g.2 0, 8, .inl f51)), (q40, .inl (g.2 0, 8, .inl f51)), (q39, .inl (g.2 0, 497, .inl f42)), (q1, .inr (12, [.ref q39, w3, w4, w5, w6, w7, w8, .ref q40, .ref q41, w11, w12, w13, w14, w15, w16, w17, w18, w19, w20, w21, w22, w23, w24, w25, w26, w27, w28, w29, w30, w31, w32, w33, w34, w35, w36, w37, w38]))] H := hP
  have hD : va_D A [(q41, .inl (g.2 0, 8, .inl f51)), (q40, .inl (g.2 0, 8, .inl f51)), (q39, .inl (g.2 0, 497, .inl f42)), (q1, .inr (12, [.ref q39, w3, w4, w5, w6, w7, w8, .ref q40, .ref q41, w11, w12, w13, w14, w15, w16, w17, w18, w19, w20, w21, w22, w23, w24, w25, w26, w27, w28, w29, w30, w31, w32, w33, w34, w35, w36, w37, w38]))] := hD
  refine lv_aload_n hx hb dX10_isTooGreat_95 rfl (lv_at hl 3 rfl) ?_
  refine gf_RX10_25 hx hb hown hE hP 3 rfl rfl dX10_isTooGreat_96 ?_
  refine lv_aload_n hx hb dX10_isTooGreat_99 rfl (lv_at hl 3 rfl) ?_
  refine lv_iload_n hx hb dX10_isTooGreat_100 rfl (lv_at hl 1 rfl) ?_
  refine lv_iconst (v := 1) hx hb dX10_isTooGreat_101 (by decide) ?_
  refine g_i (wr := [(q41, .inl (g.2 0, 8, .inl f51)), (q40, .inl (g.2 0, 8, .inl f51))]) (rV (rest := [.ref q41, .int x62, .int 0]) hx hb hml hown hE hP hD 3 rfl rfl (c1558_X10_ofClip l g q1 q39 w3 w4 w5 w6 w7 w8 (.ref q40) (.ref q41) w11 w12 w13 w14 w15 w16 w17 w18 w19 w20 w21 w22 w23 w24 w25 w26 w27 w28 w29 w30 w31 w32 w33 w34 w35 w36 w37 w38 f42 (hf63) H.size) (kV_X10_ofClip hE (e1466 hE) rfl rfl ⟨(Nat.le_of_ble_eq_true rfl), (Nat.le_of_ble_eq_true rfl)⟩) [2, 3] rfl (by decide) rfl hl.1 rfl (lv_room (Nat.le_of_ble_eq_true rfl)) dX10_isTooGreat_102 ⟨(Nat.le_of_ble_eq_true rfl), (Nat.le_of_ble_eq_true rfl)⟩) hP hD hS hA [2, 3] [0, 1] rfl rfl (by decide) (by decide) (fun u5 H locs hP hD hS => ?_)
  have hP : va_P g.1 vwCl [(q41, .inl (g.2 0, 8, .inl f51)), (q40, .inl (g.2 0, 8, .inl f51)), (q39, .inl (g.2 0, 497, .inl f42)), (q1, .inr (12, [.ref q39, w3, w4, w5, w6, w7, w8, .ref q40, .ref q41, w11, w12, w13, w14, w15, w16, w17, w18, w19, w20, w21, w22, w23, w24, w25, w26, w27, w28, w29, w30, w31, w32, w33, w34, w35, w36, w37, w38]))] H := hP
  have hD : va_D A [(q41, .inl (g.2 0, 8, .inl f51)), (q40, .inl (g.2 0, 8, .inl f51)), (q39, .inl (g.2 0, 497, .inl f42)), (q1, .inr (12, [.ref q39, w3, w4, w5, w6, w7, w8, .ref q40, .ref q41, w11, w12, w13, w14, w15, w16, w17, w18, w19, w20, w21, w22, w23, w24, w25, w26, w27, w28, w29, w30, w31, w32, w33, w34, w35, w36, w37, w38]))] := hD
  refine x_iald (v := 0) hx hb hE hP 0 rfl 5 (x_in (by decide)) (by decide) hf57 dX10_isTooGreat_105 ?_
  refine x_imul (v := 0) hx hb dX10_isTooGreat_106 (Int32.mul_zero) ?_
  refine x_iadd (v := 0) hx hb dX10_isTooGreat_107 (by decide) ?_
  refine lv_istore_n (lv' := [(2, .int 0), (1, .int 0), (3, .int 0), (0, .ref q1)]) hx hb dX10_isTooGreat_108 rfl hl (by decide) rfl (fun ls hl => ?_)
  refine lv_iinc (v := 1) (lv' := [(3, .int 1), (2, .int 0), (1, .int 0), (0, .ref q1)]) hx hb dX10_isTooGreat_109 hl (k := 2) rfl (by decide) (by decide) rfl (fun ls hl => ?_)
  refine lv_goto (tgt := 44) hx hb dX10_isTooGreat_112 (by decide) ?_
  refine lv_iload_n hx hb dX10_isTooGreat_44 rfl (lv_at hl 0 rfl) ?_
  refine lv_aload_n hx hb dX10_isTooGreat_45 rfl (lv_at hl 3 rfl) ?_
  refine gf_RX10_9 hx hb hown hE hP 3 rfl rfl dX10_isTooGreat_46 ?_
  refine lv_sipush (v := 392) hx hb dX10_isTooGreat_49 (by decide) ?_
  refine x_iald (v := 1) hx hb hE hP 2 rfl 392 (x_in (by decide)) (by decide) hf60 dX10_isTooGreat_52 ?_
  refine lv_icmp_ge (tgt := 115) hx hb dX10_isTooGreat_53 (by decide) (fun _ => ?_) (fun h => absurd (by decide) h)
  refine lv_iload_n hx hb dX10_isTooGreat_115 rfl (lv_at hl 2 rfl) ?_
  refine lv_if_ne (tgt := 126) hx hb dX10_isTooGreat_116 (by decide) (fun h => absurd h (by decide)) (fun _ => ?_)
  refine lv_iload_n hx hb dX10_isTooGreat_119 rfl (lv_at hl 1 rfl) ?_
  refine lv_sipush (v := 300) hx hb dX10_isTooGreat_120 (by decide) ?_
  refine lv_icmp_le (tgt := 130) hx hb dX10_isTooGreat_123 (by decide) (fun _ => ?_) (fun h => absurd (by decide) h)
  refine lv_iconst (v := 0) hx hb dX10_isTooGreat_130 (by decide) ?_
  exact x_zret hx hb hr rfl rfl hlocks hP hD hS hAe hsz (Nat.le_of_ble_eq_true rfl) (Nat.le_of_ble_eq_true rfl) (fun _ => 0) [0, 1, 2, 3] (by decide) rfl dX10_isTooGreat_131

set_option maxHeartbeats 4000000 in
set_option maxRecDepth 100000 in
theorem c1560_X10_addClip (l : Launch) (g : gG) (q1 q51 q54 q56 q57 q74 : Nat) (x2 x3 x4 x5 : Int32) (w7 w9 w12 w15 w16 w17 w18 w19 w20 w21 w22 w23 w24 w25 w26 w27 w28 w29 w30 w31 w32 w33 w34 w35 w36 w37 w38 w39 w40 w41 w42 : Value) (f52 : Nat → Int32) (f55 : Nat → Int32) (hf53 : f52 392 = 0) (hf58 : f52 0 = 0) (hf59 : f52 49 = 0) (hf60 : f52 98 = 0) (hf61 : f52 147 = 0) (hf62 : f52 196 = 0) (hf63 : f52 245 = 0) (hf64 : f52 294 = 0) (hf65 : f52 343 = 0) (hf66 : f55 0 = 0) (hf67 : f55 1 = 0) (hf68 : f55 2 = 0) (hf69 : f55 3 = 0) (hf70 : f55 4 = 0) (hf71 : f55 5 = 0) (hf72 : f55 6 = 0) (hf73 : f55 7 = 0) (h43 : (0 : Int32) ≤ x2) (h44 : x2 ≤ 9999) (h45 : (1 : Int32) ≤ x3) (h46 : x3 ≤ 9) (h47 : ((-50) : Int32) ≤ x4) (h48 : x4 ≤ 50) (h49 : (0 : Int32) ≤ x5) (h50 : x5 ≤ 3) (sz : Nat) : Met l yX10_addClip [Cond.code yX10_addClip cX10_addClip 8 (some .int)] ({ frames := 4, cells := 0, slots := 0, locals := 89 } : Room) (va_Pc [.ref q1, .int x2, .int 5, .int x3, .int x4, .int x5] (PX g sz [(q74, .inl (g.2 0, 3976, .inl f55)), (q57, .inl (g.2 0, 8, .inl f55)), (q56, .inl (g.2 0, 8, .inl f55)), (q54, .inl (g.2 0, 497, .inl f55)), (q51, .inl (g.2 0, 497, .inl f52)), (q1, .inr (12, [.ref q51, w7, .ref q54, w9, .ref q74, .int 0, w12, .ref q56, .ref q57, w15, w16, w17, w18, w19, w20, w21, w22, w23, w24, w25, w26, w27, w28, w29, w30, w31, w32, w33, w34, w35, w36, w37, w38, w39, w40, w41, w42]))])) (QI g [(q74, .inl (g.2 0, 3976, .inl f55)), (q57, .inl (g.2 0, 8, .inl f55)), (q56, .inl (g.2 0, 8, .inl f55)), (q54, .inl (g.2 0, 497, .inl f55)), (q51, .inl (g.2 0, 497, .inl f52)), (q1, .inr (12, [.ref q51, w7, .ref q54, w9, .ref q74, .int 0, w12, .ref q56, .ref q57, w15, w16, w17, w18, w19, w20, w21, w22, w23, w24, w25, w26, w27, w28, w29, w30, w31, w32, w33, w34, w35, w36, w37, w38, w39, w40, w41, w42]))] sz 0 (fun _ => [(q1, .inr (12, [.ref q51, w7, .ref q54, w9, .ref q74, .int 1, .int 0, .ref q56, .ref q57, w15, w16, w17, w18, w19, w20, w21, w22, w23, w24, w25, w26, w27, w28, w29, w30, w31, w32, w33, w34, w35, w36, w37, w38, w39, w40, w41, w42]))])) 0 0 (va_A [(q74, .inl (g.2 0, 3976, .inl f55)), (q57, .inl (g.2 0, 8, .inl f55)), (q56, .inl (g.2 0, 8, .inl f55)), (q54, .inl (g.2 0, 497, .inl f55)), (q51, .inl (g.2 0, 497, .inl f52)), (q1, .inr (12, [.ref q51, w7, .ref q54, w9, .ref q74, .int 0, w12, .ref q56, .ref q57, w15, w16, w17, w18, w19, w20, w21, w22, w23, w24, w25, w26, w27, w28, w29, w30, w31, w32, w33, w34, w35, w36, w37, w38, w39, w40, w41, w42]))] sz) := by
  refine ofN (by decide) (Nat.le_of_ble_eq_true rfl) rfl ?_
  intro p e s m args below meth c A ls hAe hsz hx hb hml hr hlocks hin hown hE hP hD hA hS hl
  have hown : s.vm.findClass RX10 = some m.cls := hown
  refine lv_aload_n hx hb dX10_addClip_0 rfl (lv_at hl 0 rfl) ?_
  refine lv_iconst (v := 0) hx hb dX10_addClip_1 (by decide) ?_
  refine pf_RX10_86 (ws' := [(q74, .inl (g.2 0, 3976, .inl f55)), (q57, .inl (g.2 0, 8, .inl f55)), (q56, .inl (g.2 0, 8, .inl f55)), (q54, .inl (g.2 0, 497, .inl f55)), (q51, .inl (g.2 0, 497, .inl f52)), (q1, .inr (12, [.ref q51, w7, .ref q54, w9, .ref q74, .int 0, .int 0, .ref q56, .ref q57, w15, w16, w17, w18, w19, w20, w21, w22, w23, w24, w25, w26, w27, w28, w29, w30, w31, w32, w33, w34, w35, w36, w37, w38, w39, w40, w41, w42]))]) hx hb hown hE hP hD hS 5 rfl rfl rfl (Nat.le_of_ble_eq_true rfl) dX10_addClip_2 rfl (fun H locs hP hD hS => ?_)
  refine lv_iload_n hx hb dX10_addClip_5 rfl (lv_at hl 1 rfl) ?_
  refine lv_iconst (v := 0) hx hb dX10_addClip_6 (by decide) ?_
  refine lv_sipush (v := 9999) hx hb dX10_addClip_7 (by decide) ?_
  refine g0_i (rS (rest := []) hx hb hml hown hE hP hD (c1480_X10_in l g x2 h43 h44 H.size) (kS_X10_in hE (e1431 hE) rfl rfl ⟨(Nat.le_of_ble_eq_true rfl), (Nat.le_of_ble_eq_true rfl)⟩) [] rfl (by decide) rfl hl.1 rfl (lv_room (Nat.le_of_ble_eq_true rfl)) dX10_addClip_10 ⟨(Nat.le_of_ble_eq_true rfl), (Nat.le_of_ble_eq_true rfl)⟩) hP hD hS hA (fun u9 H locs hP hS => ?_)
  refine lv_if_eq (tgt := 59) hx hb dX10_addClip_13 (by decide) (fun h => absurd h (by decide)) (fun _ => ?_)
  refine lv_iload_n hx hb dX10_addClip_16 rfl (lv_at hl 2 rfl) ?_
  refine g0_i (rS (rest := []) hx hb hml hown hE hP hD (c94_X10_isPattern l g 5 (by decide) (by decide) H.size) (kS_X10_isPattern hE (e1428 hE) rfl rfl ⟨(Nat.le_of_ble_eq_true rfl), (Nat.le_of_ble_eq_true rfl)⟩) [] rfl (by decide) rfl hl.1 rfl (lv_room (Nat.le_of_ble_eq_true rfl)) dX10_addClip_17 ⟨(Nat.le_of_ble_eq_true rfl), (Nat.le_of_ble_eq_true rfl)⟩) hP hD hS hA (fun u9 H locs hP hS => ?_)
  refine lv_if_eq (tgt := 59) hx hb dX10_addClip_20 (by decide) (fun h => absurd h (by decide)) (fun _ => ?_)
  refine lv_iload_n hx hb dX10_addClip_23 rfl (lv_at hl 3 rfl) ?_
  refine lv_iconst (v := 1) hx hb dX10_addClip_24 (by decide) ?_
  refine lv_bipush (v := 9) hx hb dX10_addClip_25 (by decide) ?_
  refine g0_i (rS (rest := []) hx hb hml hown hE hP hD (c196_X10_in l g x3 h45 h46 H.size) (kS_X10_in hE (e1431 hE) rfl rfl ⟨(Nat.le_of_ble_eq_true rfl), (Nat.le_of_ble_eq_true rfl)⟩) [] rfl (by decide) rfl hl.1 rfl (lv_room (Nat.le_of_ble_eq_true rfl)) dX10_addClip_27 ⟨(Nat.le_of_ble_eq_true rfl), (Nat.le_of_ble_eq_true rfl)⟩) hP hD hS hA (fun u9 H locs hP hS => ?_)
  refine lv_if_eq (tgt := 59) hx hb dX10_addClip_30 (by decide) (fun h => absurd h (by decide)) (fun _ => ?_)
  refine lv_iload hx hb dX10_addClip_33 (lv_at hl 4 rfl) ?_
  refine lv_bipush (v := (-50)) hx hb dX10_addClip_35 (by decide) ?_
  refine lv_bipush (v := 50) hx hb dX10_addClip_37 (by decide) ?_
  refine g0_i (rS (rest := []) hx hb hml hown hE hP hD (c1494_X10_in l g x4 h47 h48 H.size) (kS_X10_in hE (e1431 hE) rfl rfl ⟨(Nat.le_of_ble_eq_true rfl), (Nat.le_of_ble_eq_true rfl)⟩) [] rfl (by decide) rfl hl.1 rfl (lv_room (Nat.le_of_ble_eq_true rfl)) dX10_addClip_39 ⟨(Nat.le_of_ble_eq_true rfl), (Nat.le_of_ble_eq_true rfl)⟩) hP hD hS hA (fun u9 H locs hP hS => ?_)
  refine lv_if_eq (tgt := 59) hx hb dX10_addClip_42 (by decide) (fun h => absurd h (by decide)) (fun _ => ?_)
  refine lv_iload hx hb dX10_addClip_45 (lv_at hl 5 rfl) ?_
  refine lv_iconst (v := 0) hx hb dX10_addClip_47 (by decide) ?_
  refine lv_iconst (v := 3) hx hb dX10_addClip_48 (by decide) ?_
  refine g0_i (rS (rest := []) hx hb hml hown hE hP hD (c818_X10_in l g x5 h49 h50 H.size) (kS_X10_in hE (e1431 hE) rfl rfl ⟨(Nat.le_of_ble_eq_true rfl), (Nat.le_of_ble_eq_true rfl)⟩) [] rfl (by decide) rfl hl.1 rfl (lv_room (Nat.le_of_ble_eq_true rfl)) dX10_addClip_49 ⟨(Nat.le_of_ble_eq_true rfl), (Nat.le_of_ble_eq_true rfl)⟩) hP hD hS hA (fun u9 H locs hP hS => ?_)
  refine lv_if_eq (tgt := 59) hx hb dX10_addClip_52 (by decide) (fun h => absurd h (by decide)) (fun _ => ?_)
  refine lv_iconst (v := 1) hx hb dX10_addClip_55 (by decide) ?_
  refine lv_goto (tgt := 60) hx hb dX10_addClip_56 (by decide) ?_
  refine lv_istore (lv' := [(6, .int 1), (0, .ref q1), (1, .int x2), (2, .int 5), (3, .int x3), (4, .int x4), (5, .int x5)]) hx hb dX10_addClip_60 hl (by decide) rfl (fun ls hl => ?_)
  refine lv_iload hx hb dX10_addClip_62 (lv_at hl 0 rfl) ?_
  refine lv_if_ne (tgt := 73) hx hb dX10_addClip_64 (by decide) (fun _ => ?_) (fun h => absurd h (by decide))
  refine lv_aload_n hx hb dX10_addClip_73 rfl (lv_at hl 1 rfl) ?_
  refine gf_RX10_9 hx hb hown hE hP 5 rfl rfl dX10_addClip_74 ?_
  refine lv_sipush (v := 392) hx hb dX10_addClip_77 (by decide) ?_
  refine x_iald (v := 0) hx hb hE hP 4 rfl 392 (x_in (by decide)) (by decide) hf53 dX10_addClip_80 ?_
  refine lv_bipush (v := 12) hx hb dX10_addClip_81 (by decide) ?_
  refine lv_icmp_ne (tgt := 92) hx hb dX10_addClip_83 (by decide) (fun _ => ?_) (fun h => absurd h (by decide))
  refine lv_aload_n hx hb dX10_addClip_92 rfl (lv_at hl 1 rfl) ?_
  refine g_v (wr := [(q74, .inl (g.2 0, 3976, .inl f55)), (q57, .inl (g.2 0, 8, .inl f55)), (q56, .inl (g.2 0, 8, .inl f55))]) (rV (rest := []) hx hb hml hown hE hP hD 5 rfl rfl (c198_X10_putAside l g q1 q54 q51 w7 w9 (.ref q74) (.int 0) (.int 0) (.ref q56) (.ref q57) w15 w16 w17 w18 w19 w20 w21 w22 w23 w24 w25 w26 w27 w28 w29 w30 w31 w32 w33 w34 w35 w36 w37 w38 w39 w40 w41 w42 f52 f55 H.size) (kV_X10_putAside hE (e1437 hE) rfl rfl ⟨(Nat.le_of_ble_eq_true rfl), (Nat.le_of_ble_eq_true rfl)⟩) [3, 4, 5] rfl (by decide) rfl hl.1 rfl (lv_room (Nat.le_of_ble_eq_true rfl)) dX10_addClip_93 ⟨(Nat.le_of_ble_eq_true rfl), (Nat.le_of_ble_eq_true rfl)⟩) hP hD hS hA [3, 4, 5] [0, 1, 2] rfl rfl (by decide) (by decide) (fun u6 H locs hP hD hS => ?_)
  have hP : va_P g.1 vwCl [(q74, .inl (g.2 0, 3976, .inl f55)), (q57, .inl (g.2 0, 8, .inl f55)), (q56, .inl (g.2 0, 8, .inl f55)), (q54, .inl (g.2 0, 497, .inl (cpF 497 f52 f55))), (q51, .inl (g.2 0, 497, .inl f52)), (q1, .inr (12, [.ref q51, w7, .ref q54, w9, .ref q74, .int 0, .int 0, .ref q56, .ref q57, w15, w16, w17, w18, w19, w20, w21, w22, w23, w24, w25, w26, w27, w28, w29, w30, w31, w32, w33, w34, w35, w36, w37, w38, w39, w40, w41, w42]))] H := hP
  have hD : va_D A [(q74, .inl (g.2 0, 3976, .inl f55)), (q57, .inl (g.2 0, 8, .inl f55)), (q56, .inl (g.2 0, 8, .inl f55)), (q54, .inl (g.2 0, 497, .inl (cpF 497 f52 f55))), (q51, .inl (g.2 0, 497, .inl f52)), (q1, .inr (12, [.ref q51, w7, .ref q54, w9, .ref q74, .int 0, .int 0, .ref q56, .ref q57, w15, w16, w17, w18, w19, w20, w21, w22, w23, w24, w25, w26, w27, w28, w29, w30, w31, w32, w33, w34, w35, w36, w37, w38, w39, w40, w41, w42]))] := hD
  refine lv_sipush (v := 393) hx hb dX10_addClip_96 (by decide) ?_
  refine lv_iconst (v := 5) hx hb dX10_addClip_99 (by decide) ?_
  refine lv_aload_n hx hb dX10_addClip_100 rfl (lv_at hl 1 rfl) ?_
  refine gf_RX10_9 hx hb hown hE hP 5 rfl rfl dX10_addClip_101 ?_
  refine lv_sipush (v := 392) hx hb dX10_addClip_104 (by decide) ?_
  refine x_iald (v := 0) hx hb hE hP 4 rfl 392 (x_in (by decide)) (by decide) hf53 dX10_addClip_107 ?_
  refine x_imul (v := 0) hx hb dX10_addClip_108 (by decide) ?_
  refine x_iadd (v := 393) hx hb dX10_addClip_109 (by decide) ?_
  refine lv_istore (lv' := [(7, .int 393), (6, .int 1), (0, .ref q1), (1, .int x2), (2, .int 5), (3, .int x3), (4, .int x4), (5, .int x5)]) hx hb dX10_addClip_110 hl (by decide) rfl (fun ls hl => ?_)
  refine lv_aload_n hx hb dX10_addClip_112 rfl (lv_at hl 2 rfl) ?_
  refine gf_RX10_9 hx hb hown hE hP 5 rfl rfl dX10_addClip_113 ?_
  refine lv_iload hx hb dX10_addClip_116 (lv_at hl 0 rfl) ?_
  refine lv_iload_n hx hb dX10_addClip_118 rfl (lv_at hl 3 rfl) ?_
  refine x_iast (ws' := [(q74, .inl (g.2 0, 3976, .inl f55)), (q57, .inl (g.2 0, 8, .inl f55)), (q56, .inl (g.2 0, 8, .inl f55)), (q54, .inl (g.2 0, 497, .inl (cpF 497 f52 f55))), (q51, .inl (g.2 0, 497, .inl (upd f52 393 x2))), (q1, .inr (12, [.ref q51, w7, .ref q54, w9, .ref q74, .int 0, .int 0, .ref q56, .ref q57, w15, w16, w17, w18, w19, w20, w21, w22, w23, w24, w25, w26, w27, w28, w29, w30, w31, w32, w33, w34, w35, w36, w37, w38, w39, w40, w41, w42]))]) hx hb hE hP hD hS 4 rfl 393 (x_in (by decide)) (by decide) dX10_addClip_119 rfl (fun H locs hP hD hS => ?_)
  refine lv_aload_n hx hb dX10_addClip_120 rfl (lv_at hl 2 rfl) ?_
  refine gf_RX10_9 hx hb hown hE hP 5 rfl rfl dX10_addClip_121 ?_
  refine lv_iload hx hb dX10_addClip_124 (lv_at hl 0 rfl) ?_
  refine lv_iconst (v := 1) hx hb dX10_addClip_126 (by decide) ?_
  refine x_iadd (v := 394) hx hb dX10_addClip_127 (by decide) ?_
  refine lv_iload_n hx hb dX10_addClip_128 rfl (lv_at hl 4 rfl) ?_
  refine x_iast (ws' := [(q74, .inl (g.2 0, 3976, .inl f55)), (q57, .inl (g.2 0, 8, .inl f55)), (q56, .inl (g.2 0, 8, .inl f55)), (q54, .inl (g.2 0, 497, .inl (cpF 497 f52 f55))), (q51, .inl (g.2 0, 497, .inl (upd (upd f52 393 x2) 394 5))), (q1, .inr (12, [.ref q51, w7, .ref q54, w9, .ref q74, .int 0, .int 0, .ref q56, .ref q57, w15, w16, w17, w18, w19, w20, w21, w22, w23, w24, w25, w26, w27, w28, w29, w30, w31, w32, w33, w34, w35, w36, w37, w38, w39, w40, w41, w42]))]) hx hb hE hP hD hS 4 rfl 394 (x_in (by decide)) (by decide) dX10_addClip_129 rfl (fun H locs hP hD hS => ?_)
  refine lv_aload_n hx hb dX10_addClip_130 rfl (lv_at hl 2 rfl) ?_
  refine gf_RX10_9 hx hb hown hE hP 5 rfl rfl dX10_addClip_131 ?_
  refine lv_iload hx hb dX10_addClip_134 (lv_at hl 0 rfl) ?_
  refine lv_iconst (v := 2) hx hb dX10_addClip_136 (by decide) ?_
  refine x_iadd (v := 395) hx hb dX10_addClip_137 (by decide) ?_
  refine lv_iload_n hx hb dX10_addClip_138 rfl (lv_at hl 5 rfl) ?_
  refine x_iast (ws' := [(q74, .inl (g.2 0, 3976, .inl f55)), (q57, .inl (g.2 0, 8, .inl f55)), (q56, .inl (g.2 0, 8, .inl f55)), (q54, .inl (g.2 0, 497, .inl (cpF 497 f52 f55))), (q51, .inl (g.2 0, 497, .inl (upd (upd (upd f52 393 x2) 394 5) 395 x3))), (q1, .inr (12, [.ref q51, w7, .ref q54, w9, .ref q74, .int 0, .int 0, .ref q56, .ref q57, w15, w16, w17, w18, w19, w20, w21, w22, w23, w24, w25, w26, w27, w28, w29, w30, w31, w32, w33, w34, w35, w36, w37, w38, w39, w40, w41, w42]))]) hx hb hE hP hD hS 4 rfl 395 (x_in (by decide)) (by decide) dX10_addClip_139 rfl (fun H locs hP hD hS => ?_)
  refine lv_aload_n hx hb dX10_addClip_140 rfl (lv_at hl 2 rfl) ?_
  refine gf_RX10_9 hx hb hown hE hP 5 rfl rfl dX10_addClip_141 ?_
  refine lv_iload hx hb dX10_addClip_144 (lv_at hl 0 rfl) ?_
  refine lv_iconst (v := 3) hx hb dX10_addClip_146 (by decide) ?_
  refine x_iadd (v := 396) hx hb dX10_addClip_147 (by decide) ?_
  refine lv_iload hx hb dX10_addClip_148 (lv_at hl 6 rfl) ?_
  refine x_iast (ws' := [(q74, .inl (g.2 0, 3976, .inl f55)), (q57, .inl (g.2 0, 8, .inl f55)), (q56, .inl (g.2 0, 8, .inl f55)), (q54, .inl (g.2 0, 497, .inl (cpF 497 f52 f55))), (q51, .inl (g.2 0, 497, .inl (upd (upd (upd (upd f52 393 x2) 394 5) 395 x3) 396 x4))), (q1, .inr (12, [.ref q51, w7, .ref q54, w9, .ref q74, .int 0, .int 0, .ref q56, .ref q57, w15, w16, w17, w18, w19, w20, w21, w22, w23, w24, w25, w26, w27, w28, w29, w30, w31, w32, w33, w34, w35, w36, w37, w38, w39, w40, w41, w42]))]) hx hb hE hP hD hS 4 rfl 396 (x_in (by decide)) (by decide) dX10_addClip_150 rfl (fun H locs hP hD hS => ?_)
  refine lv_aload_n hx hb dX10_addClip_151 rfl (lv_at hl 2 rfl) ?_
  refine gf_RX10_9 hx hb hown hE hP 5 rfl rfl dX10_addClip_152 ?_
  refine lv_iload hx hb dX10_addClip_155 (lv_at hl 0 rfl) ?_
  refine lv_iconst (v := 4) hx hb dX10_addClip_157 (by decide) ?_
  refine x_iadd (v := 397) hx hb dX10_addClip_158 (by decide) ?_
  refine lv_iload hx hb dX10_addClip_159 (lv_at hl 7 rfl) ?_
  refine x_iast (ws' := [(q74, .inl (g.2 0, 3976, .inl f55)), (q57, .inl (g.2 0, 8, .inl f55)), (q56, .inl (g.2 0, 8, .inl f55)), (q54, .inl (g.2 0, 497, .inl (cpF 497 f52 f55))), (q51, .inl (g.2 0, 497, .inl (upd (upd (upd (upd (upd f52 393 x2) 394 5) 395 x3) 396 x4) 397 x5))), (q1, .inr (12, [.ref q51, w7, .ref q54, w9, .ref q74, .int 0, .int 0, .ref q56, .ref q57, w15, w16, w17, w18, w19, w20, w21, w22, w23, w24, w25, w26, w27, w28, w29, w30, w31, w32, w33, w34, w35, w36, w37, w38, w39, w40, w41, w42]))]) hx hb hE hP hD hS 4 rfl 397 (x_in (by decide)) (by decide) dX10_addClip_161 rfl (fun H locs hP hD hS => ?_)
  refine lv_aload_n hx hb dX10_addClip_162 rfl (lv_at hl 2 rfl) ?_
  refine gf_RX10_9 hx hb hown hE hP 5 rfl rfl dX10_addClip_163 ?_
  refine lv_sipush (v := 392) hx hb dX10_addClip_166 (by decide) ?_
  refine lv_dup2_11 hx hb dX10_addClip_169 rfl rfl ?_
  refine x_iald (v := 0) hx hb hE hP 4 rfl 392 (x_in (by decide)) (by decide) ((pk_un (by decide)).trans ((pk_un (by decide)).trans ((pk_un (by decide)).trans ((pk_un (by decide)).trans ((pk_un (by decide)).trans hf53))))) dX10_addClip_170 ?_
  refine lv_iconst (v := 1) hx hb dX10_addClip_171 (by decide) ?_
  refine x_iadd (v := 1) hx hb dX10_addClip_172 (by decide) ?_
  refine x_iast (ws' := [(q74, .inl (g.2 0, 3976, .inl f55)), (q57, .inl (g.2 0, 8, .inl f55)), (q56, .inl (g.2 0, 8, .inl f55)), (q54, .inl (g.2 0, 497, .inl (cpF 497 f52 f55))), (q51, .inl (g.2 0, 497, .inl (upd (upd (upd (upd (upd (upd f52 393 x2) 394 5) 395 x3) 396 x4) 397 x5) 392 1))), (q1, .inr (12, [.ref q51, w7, .ref q54, w9, .ref q74, .int 0, .int 0, .ref q56, .ref q57, w15, w16, w17, w18, w19, w20, w21, w22, w23, w24, w25, w26, w27, w28, w29, w30, w31, w32, w33, w34, w35, w36, w37, w38, w39, w40, w41, w42]))]) hx hb hE hP hD hS 4 rfl 392 (x_in (by decide)) (by decide) dX10_addClip_173 rfl (fun H locs hP hD hS => ?_)
  refine lv_aload_n hx hb dX10_addClip_174 rfl (lv_at hl 2 rfl) ?_
  refine g_i (wr := [(q74, .inl (g.2 0, 3976, .inl f55)), (q54, .inl (g.2 0, 497, .inl (cpF 497 f52 f55)))]) (rV (rest := []) hx hb hml hown hE hP hD 5 rfl rfl (c1559_X10_isTooGreat l g q1 q51 q56 q57 x3 w7 (.ref q54) w9 (.ref q74) (.int 0) (.int 0) w15 w16 w17 w18 w19 w20 w21 w22 w23 w24 w25 w26 w27 w28 w29 w30 w31 w32 w33 w34 w35 w36 w37 w38 w39 w40 w41 w42 (upd (upd (upd (upd (upd (upd f52 393 x2) 394 5) 395 x3) 396 x4) 397 x5) 392 1) f55 (((pk_un (by decide)).trans ((pk_un (by decide)).trans ((pk_un (by decide)).trans ((pk_un (by decide)).trans ((pk_un (by decide)).trans ((pk_un (by decide)).trans hf58))))))) (((pk_un (by decide)).trans ((pk_un (by decide)).trans ((pk_un (by decide)).trans ((pk_un (by decide)).trans ((pk_un (by decide)).trans ((pk_un (by decide)).trans hf59))))))) (((pk_un (by decide)).trans ((pk_un (by decide)).trans ((pk_un (by decide)).trans ((pk_un (by decide)).trans ((pk_un (by decide)).trans ((pk_un (by decide)).trans hf60))))))) (((pk_un (by decide)).trans ((pk_un (by decide)).trans ((pk_un (by decide)).trans ((pk_un (by decide)).trans ((pk_un (by decide)).trans ((pk_un (by decide)).trans hf61))))))) (((pk_un (by decide)).trans ((pk_un (by decide)).trans ((pk_un (by decide)).trans ((pk_un (by decide)).trans ((pk_un (by decide)).trans ((pk_un (by decide)).trans hf62))))))) (((pk_un (by decide)).trans ((pk_un (by decide)).trans ((pk_un (by decide)).trans ((pk_un (by decide)).trans ((pk_un (by decide)).trans ((pk_un (by decide)).trans hf63))))))) (((pk_un (by decide)).trans ((pk_un (by decide)).trans ((pk_un (by decide)).trans ((pk_un (by decide)).trans ((pk_un (by decide)).trans ((pk_un (by decide)).trans hf64))))))) (((pk_un (by decide)).trans ((pk_un (by decide)).trans ((pk_un (by decide)).trans ((pk_un (by decide)).trans ((pk_un (by decide)).trans ((pk_un (by decide)).trans hf65))))))) (hf66) (hf67) (hf68) (hf69) (hf70) (hf71) (hf72) (hf73) (pk_us) (((pk_un (by decide)).trans ((pk_un (by decide)).trans ((pk_un (by decide)).trans pk_us)))) (((pk_un (by decide)).trans ((pk_un (by decide)).trans ((pk_un (by decide)).trans ((pk_un (by decide)).trans pk_us))))) H.size) (kV_X10_isTooGreat hE (e1448 hE) rfl rfl ⟨(Nat.le_of_ble_eq_true rfl), (Nat.le_of_ble_eq_true rfl)⟩) [1, 2, 4, 5] rfl (by decide) rfl hl.1 rfl (lv_room (Nat.le_of_ble_eq_true rfl)) dX10_addClip_175 ⟨(Nat.le_of_ble_eq_true rfl), (Nat.le_of_ble_eq_true rfl)⟩) hP hD hS hA [1, 2, 4, 5] [0, 3] rfl rfl (by decide) (by decide) (fun u7 H locs hP hD hS => ?_)
  have hP : va_P g.1 vwCl [(q74, .inl (g.2 0, 3976, .inl f55)), (q54, .inl (g.2 0, 497, .inl (cpF 497 f52 f55))), (q57, .inl (g.2 0, 8, .inl f55)), (q56, .inl (g.2 0, 8, .inl f55)), (q51, .inl (g.2 0, 497, .inl (upd (upd (upd (upd (upd (upd f52 393 x2) 394 5) 395 x3) 396 x4) 397 x5) 392 1))), (q1, .inr (12, [.ref q51, w7, .ref q54, w9, .ref q74, .int 0, .int 0, .ref q56, .ref q57, w15, w16, w17, w18, w19, w20, w21, w22, w23, w24, w25, w26, w27, w28, w29, w30, w31, w32, w33, w34, w35, w36, w37, w38, w39, w40, w41, w42]))] H := hP
  have hD : va_D A [(q74, .inl (g.2 0, 3976, .inl f55)), (q54, .inl (g.2 0, 497, .inl (cpF 497 f52 f55))), (q57, .inl (g.2 0, 8, .inl f55)), (q56, .inl (g.2 0, 8, .inl f55)), (q51, .inl (g.2 0, 497, .inl (upd (upd (upd (upd (upd (upd f52 393 x2) 394 5) 395 x3) 396 x4) 397 x5) 392 1))), (q1, .inr (12, [.ref q51, w7, .ref q54, w9, .ref q74, .int 0, .int 0, .ref q56, .ref q57, w15, w16, w17, w18, w19, w20, w21, w22, w23, w24, w25, w26, w27, w28, w29, w30, w31, w32, w33, w34, w35, w36, w37, w38, w39, w40, w41, w42]))] := hD
  refine lv_if_eq (tgt := 191) hx hb dX10_addClip_178 (by decide) (fun _ => ?_) (fun h => absurd (by decide) h)
  refine lv_aload_n hx hb dX10_addClip_191 rfl (lv_at hl 2 rfl) ?_
  refine g_v (wr := [(q57, .inl (g.2 0, 8, .inl f55)), (q56, .inl (g.2 0, 8, .inl f55)), (q51, .inl (g.2 0, 497, .inl (upd (upd (upd (upd (upd (upd f52 393 x2) 394 5) 395 x3) 396 x4) 397 x5) 392 1)))]) (rV (rest := []) hx hb hml hown hE hP hD 5 rfl rfl (c220_X10_keep l g q1 q74 q54 (.ref q51) w7 w9 (.int 0) (.ref q56) (.ref q57) w15 w16 w17 w18 w19 w20 w21 w22 w23 w24 w25 w26 w27 w28 w29 w30 w31 w32 w33 w34 w35 w36 w37 w38 w39 w40 w41 w42 (cpF 497 f52 f55) f55 H.size) (kV_X10_keep hE (e1478 hE) rfl rfl ⟨(Nat.le_of_ble_eq_true rfl), (Nat.le_of_ble_eq_true rfl)⟩) [0, 1, 5] rfl (by decide) rfl hl.1 rfl (lv_room (Nat.le_of_ble_eq_true rfl)) dX10_addClip_192 ⟨(Nat.le_of_ble_eq_true rfl), (Nat.le_of_ble_eq_true rfl)⟩) hP hD hS hA [0, 1, 5] [2, 3, 4] rfl rfl (by decide) (by decide) (fun u8 H locs hP hD hS => ?_)
  have hP : va_P g.1 vwCl [(q57, .inl (g.2 0, 8, .inl f55)), (q56, .inl (g.2 0, 8, .inl f55)), (q51, .inl (g.2 0, 497, .inl (upd (upd (upd (upd (upd (upd f52 393 x2) 394 5) 395 x3) 396 x4) 397 x5) 392 1))), (q74, .inl (g.2 0, 3976, .inl (cpF 497 (cpF 497 f52 f55) f55))), (q54, .inl (g.2 0, 497, .inl (cpF 497 f52 f55))), (q1, .inr (12, [.ref q51, w7, .ref q54, w9, .ref q74, .int 1, .int 0, .ref q56, .ref q57, w15, w16, w17, w18, w19, w20, w21, w22, w23, w24, w25, w26, w27, w28, w29, w30, w31, w32, w33, w34, w35, w36, w37, w38, w39, w40, w41, w42]))] H := hP
  have hD : va_D A [(q57, .inl (g.2 0, 8, .inl f55)), (q56, .inl (g.2 0, 8, .inl f55)), (q51, .inl (g.2 0, 497, .inl (upd (upd (upd (upd (upd (upd f52 393 x2) 394 5) 395 x3) 396 x4) 397 x5) 392 1))), (q74, .inl (g.2 0, 3976, .inl (cpF 497 (cpF 497 f52 f55) f55))), (q54, .inl (g.2 0, 497, .inl (cpF 497 f52 f55))), (q1, .inr (12, [.ref q51, w7, .ref q54, w9, .ref q74, .int 1, .int 0, .ref q56, .ref q57, w15, w16, w17, w18, w19, w20, w21, w22, w23, w24, w25, w26, w27, w28, w29, w30, w31, w32, w33, w34, w35, w36, w37, w38, w39, w40, w41, w42]))] := hD
  refine lv_aload_n hx hb dX10_addClip_195 rfl (lv_at hl 2 rfl) ?_
  refine gf_RX10_9 hx hb hown hE hP 5 rfl rfl dX10_addClip_196 ?_
  refine lv_sipush (v := 392) hx hb dX10_addClip_199 (by decide) ?_
  refine x_iald (v := 1) hx hb hE hP 2 rfl 392 (x_in (by decide)) (by decide) pk_us dX10_addClip_202 ?_
  refine lv_iconst (v := 1) hx hb dX10_addClip_203 (by decide) ?_
  refine x_isub (v := 0) hx hb dX10_addClip_204 (by decide) ?_
  exact x_zret hx hb hr rfl rfl hlocks hP hD hS hAe hsz (Nat.le_of_ble_eq_true rfl) (Nat.le_of_ble_eq_true rfl) (fun _ => 0) [5] (by decide) rfl dX10_addClip_205

set_option maxHeartbeats 4000000 in
set_option maxRecDepth 100000 in
theorem c1561_X6_clipLength (l : Launch) (g : gG) (q1 q9 q13 q17 : Nat) (x12 : Int32) (w3 w5 w6 w7 w8 w15 : Value) (f10 : Nat → Int32) (f18 : Nat → Int32) (hf11 : f10 2 = x12) (hf14 : f10 1 = 6) (hf19 : f18 31 = 0) (sz : Nat) : Met l yX6_clipLength [Cond.code yX6_clipLength cX6_clipLength 2 (some .int)] ({ frames := 1, cells := 0, slots := 0, locals := 23 } : Room) (va_Pc [.ref q1, .int 0] (PX g sz [(q17, .inl (g.2 0, 40, .inl f18)), (q13, .inr (5, [w15, .ref q17])), (q9, .inl (g.2 0, 60, .inl f10)), (q1, .inr (8, [.ref q13, w3, .ref q9, w5, w6, w7, w8]))])) (QI g [(q17, .inl (g.2 0, 40, .inl f18)), (q13, .inr (5, [w15, .ref q17])), (q9, .inl (g.2 0, 60, .inl f10)), (q1, .inr (8, [.ref q13, w3, .ref q9, w5, w6, w7, w8]))] sz 0 (fun _ => [(q9, .inl (g.2 0, 60, .inl f10)), (q1, .inr (8, [.ref q13, w3, .ref q9, w5, w6, w7, w8])), (q17, .inl (g.2 0, 40, .inl f18)), (q13, .inr (5, [w15, .ref q17]))])) 0 0 (va_A [(q17, .inl (g.2 0, 40, .inl f18)), (q13, .inr (5, [w15, .ref q17])), (q9, .inl (g.2 0, 60, .inl f10)), (q1, .inr (8, [.ref q13, w3, .ref q9, w5, w6, w7, w8]))] sz) := by
  refine ofN (by decide) (Nat.le_of_ble_eq_true rfl) rfl ?_
  intro p e s m args below meth c A ls hAe hsz hx hb hml hr hlocks hin hown hE hP hD hA hS hl
  have hown : s.vm.findClass RX6 = some m.cls := hown
  refine lv_aload_n hx hb dX6_clipLength_0 rfl (lv_at hl 0 rfl) ?_
  refine lv_iload_n hx hb dX6_clipLength_1 rfl (lv_at hl 1 rfl) ?_
  refine lv_iconst (v := 2) hx hb dX6_clipLength_2 (by decide) ?_
  refine g_i (wr := [(q17, .inl (g.2 0, 40, .inl f18)), (q13, .inr (5, [w15, .ref q17]))]) (rV (rest := []) hx hb hml hown hE hP hD 3 rfl rfl (c1503_X6_clipNumber l g q1 q9 x12 (.ref q13) w3 w5 w6 w7 w8 f10 (hf11) s.heap.size) (kV_X6_clipNumber hE (e711 hE) rfl rfl ⟨(Nat.le_of_ble_eq_true rfl), (Nat.le_of_ble_eq_true rfl)⟩) [2, 3] rfl (by decide) rfl hl.1 rfl (lv_room (Nat.le_of_ble_eq_true rfl)) dX6_clipLength_3 ⟨(Nat.le_of_ble_eq_true rfl), (Nat.le_of_ble_eq_true rfl)⟩) hP hD hS hA [2, 3] [0, 1] rfl rfl (by decide) (by decide) (fun u1 H locs hP hD hS => ?_)
  have hP : va_P g.1 vwCl [(q17, .inl (g.2 0, 40, .inl f18)), (q13, .inr (5, [w15, .ref q17])), (q9, .inl (g.2 0, 60, .inl f10)), (q1, .inr (8, [.ref q13, w3, .ref q9, w5, w6, w7, w8]))] H := hP
  have hD : va_D A [(q17, .inl (g.2 0, 40, .inl f18)), (q13, .inr (5, [w15, .ref q17])), (q9, .inl (g.2 0, 60, .inl f10)), (q1, .inr (8, [.ref q13, w3, .ref q9, w5, w6, w7, w8]))] := hD
  refine lv_aload_n hx hb dX6_clipLength_6 rfl (lv_at hl 0 rfl) ?_
  refine gf_RX6_12 hx hb hown hE hP 3 rfl rfl dX6_clipLength_7 ?_
  refine lv_aload_n hx hb dX6_clipLength_10 rfl (lv_at hl 0 rfl) ?_
  refine lv_iload_n hx hb dX6_clipLength_11 rfl (lv_at hl 1 rfl) ?_
  refine lv_iconst (v := 1) hx hb dX6_clipLength_12 (by decide) ?_
  refine g_i (wr := [(q17, .inl (g.2 0, 40, .inl f18)), (q13, .inr (5, [w15, .ref q17]))]) (rV (rest := [.ref q13, .int x12]) hx hb hml hown hE hP hD 3 rfl rfl (c1504_X6_clipNumber l g q1 q9 6 (.ref q13) w3 w5 w6 w7 w8 f10 (hf14) H.size) (kV_X6_clipNumber hE (e711 hE) rfl rfl ⟨(Nat.le_of_ble_eq_true rfl), (Nat.le_of_ble_eq_true rfl)⟩) [2, 3] rfl (by decide) rfl hl.1 rfl (lv_room (Nat.le_of_ble_eq_true rfl)) dX6_clipLength_13 ⟨(Nat.le_of_ble_eq_true rfl), (Nat.le_of_ble_eq_true rfl)⟩) hP hD hS hA [2, 3] [0, 1] rfl rfl (by decide) (by decide) (fun u2 H locs hP hD hS => ?_)
  have hP : va_P g.1 vwCl [(q17, .inl (g.2 0, 40, .inl f18)), (q13, .inr (5, [w15, .ref q17])), (q9, .inl (g.2 0, 60, .inl f10)), (q1, .inr (8, [.ref q13, w3, .ref q9, w5, w6, w7, w8]))] H := hP
  have hD : va_D A [(q17, .inl (g.2 0, 40, .inl f18)), (q13, .inr (5, [w15, .ref q17])), (q9, .inl (g.2 0, 60, .inl f10)), (q1, .inr (8, [.ref q13, w3, .ref q9, w5, w6, w7, w8]))] := hD
  refine lv_iconst (v := 1) hx hb dX6_clipLength_16 (by decide) ?_
  refine g_i (wr := [(q9, .inl (g.2 0, 60, .inl f10)), (q1, .inr (8, [.ref q13, w3, .ref q9, w5, w6, w7, w8]))]) (rV (rest := [.int x12]) hx hb hml hown hE hP hD 1 rfl rfl (c181_X3_figure l g q13 q17 w15 f18 (hf19) H.size) (kV_X3_figure hE (e712 hE) rfl rfl ⟨(Nat.le_of_ble_eq_true rfl), (Nat.le_of_ble_eq_true rfl)⟩) [0, 1] rfl (by decide) rfl hl.1 rfl (lv_room (Nat.le_of_ble_eq_true rfl)) dX6_clipLength_17 ⟨(Nat.le_of_ble_eq_true rfl), (Nat.le_of_ble_eq_true rfl)⟩) hP hD hS hA [0, 1] [2, 3] rfl rfl (by decide) (by decide) (fun u3 H locs hP hD hS => ?_)
  have hP : va_P g.1 vwCl [(q9, .inl (g.2 0, 60, .inl f10)), (q1, .inr (8, [.ref q13, w3, .ref q9, w5, w6, w7, w8])), (q17, .inl (g.2 0, 40, .inl f18)), (q13, .inr (5, [w15, .ref q17]))] H := hP
  have hD : va_D A [(q9, .inl (g.2 0, 60, .inl f10)), (q1, .inr (8, [.ref q13, w3, .ref q9, w5, w6, w7, w8])), (q17, .inl (g.2 0, 40, .inl f18)), (q13, .inr (5, [w15, .ref q17]))] := hD
  refine x_imul (v := 0) hx hb dX6_clipLength_20 (Int32.mul_zero) ?_
  exact x_zret hx hb hr rfl rfl hlocks hP hD hS hAe hsz (Nat.le_of_ble_eq_true rfl) (Nat.le_of_ble_eq_true rfl) (fun _ => 0) [0, 1, 2, 3] (by decide) rfl dX6_clipLength_21

set_option maxHeartbeats 4000000 in
set_option maxRecDepth 100000 in
theorem c1562_X6_clipNotes (l : Launch) (g : gG) (q1 q9 q13 q17 : Nat) (x12 : Int32) (w3 w5 w6 w7 w8 w15 : Value) (f10 : Nat → Int32) (f18 : Nat → Int32) (hf11 : f10 2 = x12) (hf14 : f10 1 = 6) (hf19 : f18 32 = 0) (sz : Nat) : Met l yX6_clipNotes [Cond.code yX6_clipNotes cX6_clipNotes 2 (some .int)] ({ frames := 1, cells := 0, slots := 0, locals := 23 } : Room) (va_Pc [.ref q1, .int 0] (PX g sz [(q17, .inl (g.2 0, 40, .inl f18)), (q13, .inr (5, [w15, .ref q17])), (q9, .inl (g.2 0, 60, .inl f10)), (q1, .inr (8, [.ref q13, w3, .ref q9, w5, w6, w7, w8]))])) (QI g [(q17, .inl (g.2 0, 40, .inl f18)), (q13, .inr (5, [w15, .ref q17])), (q9, .inl (g.2 0, 60, .inl f10)), (q1, .inr (8, [.ref q13, w3, .ref q9, w5, w6, w7, w8]))] sz 0 (fun _ => [(q9, .inl (g.2 0, 60, .inl f10)), (q1, .inr (8, [.ref q13, w3, .ref q9, w5, w6, w7, w8])), (q17, .inl (g.2 0, 40, .inl f18)), (q13, .inr (5, [w15, .ref q17]))])) 0 0 (va_A [(q17, .inl (g.2 0, 40, .inl f18)), (q13, .inr (5, [w15, .ref q17])), (q9, .inl (g.2 0, 60, .inl f10)), (q1, .inr (8, [.ref q13, w3, .ref q9, w5, w6, w7, w8]))] sz) := by
  refine ofN (by decide) (Nat.le_of_ble_eq_true rfl) rfl ?_
  intro p e s m args below meth c A ls hAe hsz hx hb hml hr hlocks hin hown hE hP hD hA hS hl
  have hown : s.vm.findClass RX6 = some m.cls := hown
  refine lv_aload_n hx hb dX6_clipNotes_0 rfl (lv_at hl 0 rfl) ?_
  refine lv_iload_n hx hb dX6_clipNotes_1 rfl (lv_at hl 1 rfl) ?_
  refine lv_iconst (v := 2) hx hb dX6_clipNotes_2 (by decide) ?_
  refine g_i (wr := [(q17, .inl (g.2 0, 40, .inl f18)), (q13, .inr (5, [w15, .ref q17]))]) (rV (rest := []) hx hb hml hown hE hP hD 3 rfl rfl (c1503_X6_clipNumber l g q1 q9 x12 (.ref q13) w3 w5 w6 w7 w8 f10 (hf11) s.heap.size) (kV_X6_clipNumber hE (e711 hE) rfl rfl ⟨(Nat.le_of_ble_eq_true rfl), (Nat.le_of_ble_eq_true rfl)⟩) [2, 3] rfl (by decide) rfl hl.1 rfl (lv_room (Nat.le_of_ble_eq_true rfl)) dX6_clipNotes_3 ⟨(Nat.le_of_ble_eq_true rfl), (Nat.le_of_ble_eq_true rfl)⟩) hP hD hS hA [2, 3] [0, 1] rfl rfl (by decide) (by decide) (fun u1 H locs hP hD hS => ?_)
  have hP : va_P g.1 vwCl [(q17, .inl (g.2 0, 40, .inl f18)), (q13, .inr (5, [w15, .ref q17])), (q9, .inl (g.2 0, 60, .inl f10)), (q1, .inr (8, [.ref q13, w3, .ref q9, w5, w6, w7, w8]))] H := hP
  have hD : va_D A [(q17, .inl (g.2 0, 40, .inl f18)), (q13, .inr (5, [w15, .ref q17])), (q9, .inl (g.2 0, 60, .inl f10)), (q1, .inr (8, [.ref q13, w3, .ref q9, w5, w6, w7, w8]))] := hD
  refine lv_aload_n hx hb dX6_clipNotes_6 rfl (lv_at hl 0 rfl) ?_
  refine gf_RX6_12 hx hb hown hE hP 3 rfl rfl dX6_clipNotes_7 ?_
  refine lv_aload_n hx hb dX6_clipNotes_10 rfl (lv_at hl 0 rfl) ?_
  refine lv_iload_n hx hb dX6_clipNotes_11 rfl (lv_at hl 1 rfl) ?_
  refine lv_iconst (v := 1) hx hb dX6_clipNotes_12 (by decide) ?_
  refine g_i (wr := [(q17, .inl (g.2 0, 40, .inl f18)), (q13, .inr (5, [w15, .ref q17]))]) (rV (rest := [.ref q13, .int x12]) hx hb hml hown hE hP hD 3 rfl rfl (c1504_X6_clipNumber l g q1 q9 6 (.ref q13) w3 w5 w6 w7 w8 f10 (hf14) H.size) (kV_X6_clipNumber hE (e711 hE) rfl rfl ⟨(Nat.le_of_ble_eq_true rfl), (Nat.le_of_ble_eq_true rfl)⟩) [2, 3] rfl (by decide) rfl hl.1 rfl (lv_room (Nat.le_of_ble_eq_true rfl)) dX6_clipNotes_13 ⟨(Nat.le_of_ble_eq_true rfl), (Nat.le_of_ble_eq_true rfl)⟩) hP hD hS hA [2, 3] [0, 1] rfl rfl (by decide) (by decide) (fun u2 H locs hP hD hS => ?_)
  have hP : va_P g.1 vwCl [(q17, .inl (g.2 0, 40, .inl f18)), (q13, .inr (5, [w15, .ref q17])), (q9, .inl (g.2 0, 60, .inl f10)), (q1, .inr (8, [.ref q13, w3, .ref q9, w5, w6, w7, w8]))] H := hP
  have hD : va_D A [(q17, .inl (g.2 0, 40, .inl f18)), (q13, .inr (5, [w15, .ref q17])), (q9, .inl (g.2 0, 60, .inl f10)), (q1, .inr (8, [.ref q13, w3, .ref q9, w5, w6, w7, w8]))] := hD
  refine lv_iconst (v := 2) hx hb dX6_clipNotes_16 (by decide) ?_
  refine g_i (wr := [(q9, .inl (g.2 0, 60, .inl f10)), (q1, .inr (8, [.ref q13, w3, .ref q9, w5, w6, w7, w8]))]) (rV (rest := [.int x12]) hx hb hml hown hE hP hD 1 rfl rfl (c1134_X3_figure l g q13 q17 w15 f18 (hf19) H.size) (kV_X3_figure hE (e712 hE) rfl rfl ⟨(Nat.le_of_ble_eq_true rfl), (Nat.le_of_ble_eq_true rfl)⟩) [0, 1] rfl (by decide) rfl hl.1 rfl (lv_room (Nat.le_of_ble_eq_true rfl)) dX6_clipNotes_17 ⟨(Nat.le_of_ble_eq_true rfl), (Nat.le_of_ble_eq_true rfl)⟩) hP hD hS hA [0, 1] [2, 3] rfl rfl (by decide) (by decide) (fun u3 H locs hP hD hS => ?_)
  have hP : va_P g.1 vwCl [(q9, .inl (g.2 0, 60, .inl f10)), (q1, .inr (8, [.ref q13, w3, .ref q9, w5, w6, w7, w8])), (q17, .inl (g.2 0, 40, .inl f18)), (q13, .inr (5, [w15, .ref q17]))] H := hP
  have hD : va_D A [(q9, .inl (g.2 0, 60, .inl f10)), (q1, .inr (8, [.ref q13, w3, .ref q9, w5, w6, w7, w8])), (q17, .inl (g.2 0, 40, .inl f18)), (q13, .inr (5, [w15, .ref q17]))] := hD
  refine x_imul (v := 0) hx hb dX6_clipNotes_20 (Int32.mul_zero) ?_
  exact x_zret hx hb hr rfl rfl hlocks hP hD hS hAe hsz (Nat.le_of_ble_eq_true rfl) (Nat.le_of_ble_eq_true rfl) (fun _ => 0) [0, 1, 2, 3] (by decide) rfl dX6_clipNotes_21

set_option maxHeartbeats 4000000 in
set_option maxRecDepth 100000 in
theorem c1563_X6_hasFittingClips (l : Launch) (g : gG) (q1 q9 q10 q17 : Nat) (x13 : Int32) (w3 w5 w7 w8 w15 : Value) (f11 : Nat → Int32) (f18 : Nat → Int32) (hf12 : f11 2 = x13) (hf14 : f11 1 = 6) (hf19 : f18 31 = 0) (hf20 : f18 32 = 0) (sz : Nat) : Met l yX6_hasFittingClips [Cond.code yX6_hasFittingClips cX6_hasFittingClips 3 (some .boolean)] ({ frames := 2, cells := 0, slots := 0, locals := 44 } : Room) (va_Pc [.ref q1] (PX g sz [(q17, .inl (g.2 0, 40, .inl f18)), (q9, .inr (5, [w15, .ref q17])), (q10, .inl (g.2 0, 60, .inl f11)), (q1, .inr (8, [.ref q9, w3, .ref q10, w5, .int 1, w7, w8]))])) (QI g [(q17, .inl (g.2 0, 40, .inl f18)), (q9, .inr (5, [w15, .ref q17])), (q10, .inl (g.2 0, 60, .inl f11)), (q1, .inr (8, [.ref q9, w3, .ref q10, w5, .int 1, w7, w8]))] sz 1 (fun _ => [(q10, .inl (g.2 0, 60, .inl f11)), (q1, .inr (8, [.ref q9, w3, .ref q10, w5, .int 1, w7, w8])), (q17, .inl (g.2 0, 40, .inl f18)), (q9, .inr (5, [w15, .ref q17]))])) 0 0 (va_A [(q17, .inl (g.2 0, 40, .inl f18)), (q9, .inr (5, [w15, .ref q17])), (q10, .inl (g.2 0, 60, .inl f11)), (q1, .inr (8, [.ref q9, w3, .ref q10, w5, .int 1, w7, w8]))] sz) := by
  refine ofN (by decide) (Nat.le_of_ble_eq_true rfl) rfl ?_
  intro p e s m args below meth c A ls hAe hsz hx hb hml hr hlocks hin hown hE hP hD hA hS hl
  have hown : s.vm.findClass RX6 = some m.cls := hown
  refine lv_iconst (v := 0) hx hb dX6_hasFittingClips_0 (by decide) ?_
  refine lv_istore_n (lv' := [(1, .int 0), (0, .ref q1)]) hx hb dX6_hasFittingClips_1 rfl hl (by decide) rfl (fun ls hl => ?_)
  refine lv_iconst (v := 0) hx hb dX6_hasFittingClips_2 (by decide) ?_
  refine lv_istore_n (lv' := [(2, .int 0), (1, .int 0), (0, .ref q1)]) hx hb dX6_hasFittingClips_3 rfl hl (by decide) rfl (fun ls hl => ?_)
  refine lv_iload_n hx hb dX6_hasFittingClips_4 rfl (lv_at hl 0 rfl) ?_
  refine lv_aload_n hx hb dX6_hasFittingClips_5 rfl (lv_at hl 2 rfl) ?_
  refine gf_RX6_37 hx hb hown hE hP 3 rfl rfl dX6_hasFittingClips_6 ?_
  refine lv_icmp_ge (tgt := 39) hx hb dX6_hasFittingClips_9 (by decide) (fun h => absurd h (by decide)) (fun _ => ?_)
  refine lv_aload_n hx hb dX6_hasFittingClips_12 rfl (lv_at hl 2 rfl) ?_
  refine lv_iload_n hx hb dX6_hasFittingClips_13 rfl (lv_at hl 0 rfl) ?_
  refine g_i (wr := []) (rV (rest := []) hx hb hml hown hE hP hD 3 rfl rfl (c1561_X6_clipLength l g q1 q10 q9 q17 x13 w3 w5 (.int 1) w7 w8 w15 f11 f18 (hf12) (hf14) (hf19) s.heap.size) (kV_X6_clipLength hE (e707 hE) rfl rfl ⟨(Nat.le_of_ble_eq_true rfl), (Nat.le_of_ble_eq_true rfl)⟩) [0, 1, 2, 3] rfl (by decide) rfl hl.1 rfl (lv_room (Nat.le_of_ble_eq_true rfl)) dX6_hasFittingClips_14 ⟨(Nat.le_of_ble_eq_true rfl), (Nat.le_of_ble_eq_true rfl)⟩) hP hD hS hA [0, 1, 2, 3] [] rfl rfl (by decide) (by decide) (fun u1 H locs hP hD hS => ?_)
  have hP : va_P g.1 vwCl [(q10, .inl (g.2 0, 60, .inl f11)), (q1, .inr (8, [.ref q9, w3, .ref q10, w5, .int 1, w7, w8])), (q17, .inl (g.2 0, 40, .inl f18)), (q9, .inr (5, [w15, .ref q17]))] H := hP
  have hD : va_D A [(q10, .inl (g.2 0, 60, .inl f11)), (q1, .inr (8, [.ref q9, w3, .ref q10, w5, .int 1, w7, w8])), (q17, .inl (g.2 0, 40, .inl f18)), (q9, .inr (5, [w15, .ref q17]))] := hD
  refine lv_sipush (v := 20000) hx hb dX6_hasFittingClips_17 (by decide) ?_
  refine lv_icmp_le (tgt := 25) hx hb dX6_hasFittingClips_20 (by decide) (fun _ => ?_) (fun h => absurd (by decide) h)
  refine lv_iload_n hx hb dX6_hasFittingClips_25 rfl (lv_at hl 1 rfl) ?_
  refine lv_aload_n hx hb dX6_hasFittingClips_26 rfl (lv_at hl 2 rfl) ?_
  refine lv_iload_n hx hb dX6_hasFittingClips_27 rfl (lv_at hl 0 rfl) ?_
  refine g_i (wr := []) (rV (rest := [.int 0]) hx hb hml hown hE hP hD 1 rfl rfl (c1562_X6_clipNotes l g q1 q10 q9 q17 x13 w3 w5 (.int 1) w7 w8 w15 f11 f18 (hf12) (hf14) (hf20) H.size) (kV_X6_clipNotes hE (e713 hE) rfl rfl ⟨(Nat.le_of_ble_eq_true rfl), (Nat.le_of_ble_eq_true rfl)⟩) [2, 3, 0, 1] rfl (by decide) rfl hl.1 rfl (lv_room (Nat.le_of_ble_eq_true rfl)) dX6_hasFittingClips_28 ⟨(Nat.le_of_ble_eq_true rfl), (Nat.le_of_ble_eq_true rfl)⟩) hP hD hS hA [2, 3, 0, 1] [] rfl rfl (by decide) (by decide) (fun u2 H locs hP hD hS => ?_)
  have hP : va_P g.1 vwCl [(q10, .inl (g.2 0, 60, .inl f11)), (q1, .inr (8, [.ref q9, w3, .ref q10, w5, .int 1, w7, w8])), (q17, .inl (g.2 0, 40, .inl f18)), (q9, .inr (5, [w15, .ref q17]))] H := hP
  have hD : va_D A [(q10, .inl (g.2 0, 60, .inl f11)), (q1, .inr (8, [.ref q9, w3, .ref q10, w5, .int 1, w7, w8])), (q17, .inl (g.2 0, 40, .inl f18)), (q9, .inr (5, [w15, .ref q17]))] := hD
  refine x_iadd (v := 0) hx hb dX6_hasFittingClips_31 (by decide) ?_
  refine lv_istore_n (lv' := [(1, .int 0), (2, .int 0), (0, .ref q1)]) hx hb dX6_hasFittingClips_32 rfl hl (by decide) rfl (fun ls hl => ?_)
  refine lv_iinc (v := 1) (lv' := [(2, .int 1), (1, .int 0), (0, .ref q1)]) hx hb dX6_hasFittingClips_33 hl (k := 1) rfl (by decide) (by decide) rfl (fun ls hl => ?_)
  refine lv_goto (tgt := 4) hx hb dX6_hasFittingClips_36 (by decide) ?_
  refine lv_iload_n hx hb dX6_hasFittingClips_4 rfl (lv_at hl 0 rfl) ?_
  refine lv_aload_n hx hb dX6_hasFittingClips_5 rfl (lv_at hl 2 rfl) ?_
  refine gf_RX6_37 hx hb hown hE hP 1 rfl rfl dX6_hasFittingClips_6 ?_
  refine lv_icmp_ge (tgt := 39) hx hb dX6_hasFittingClips_9 (by decide) (fun _ => ?_) (fun h => absurd (by decide) h)
  refine lv_iload_n hx hb dX6_hasFittingClips_39 rfl (lv_at hl 1 rfl) ?_
  refine lv_sipush (v := 300) hx hb dX6_hasFittingClips_40 (by decide) ?_
  refine lv_icmp_gt (tgt := 50) hx hb dX6_hasFittingClips_43 (by decide) (fun h => absurd h (by decide)) (fun _ => ?_)
  refine lv_iconst (v := 1) hx hb dX6_hasFittingClips_46 (by decide) ?_
  refine lv_goto (tgt := 51) hx hb dX6_hasFittingClips_47 (by decide) ?_
  exact x_zret hx hb hr rfl rfl hlocks hP hD hS hAe hsz (Nat.le_of_ble_eq_true rfl) (Nat.le_of_ble_eq_true rfl) (fun _ => 0) [0, 1, 2, 3] (by decide) rfl dX6_hasFittingClips_51

set_option maxHeartbeats 4000000 in
set_option maxRecDepth 100000 in
theorem c1564_X9_acceptIfFitting (l : Launch) (g : gG) (q1 q2 q10 q13 q14 q47 q63 : Nat) (x50 : Int32) (w4 w6 w8 w9 w53 w54 w55 w56 w57 w58 w59 w60 w61 w62 w64 : Value) (f15 : Nat → Int32) (f48 : Nat → Int32) (hf16 : f15 0 = 0) (hf17 : f15 2 = 0) (hf18 : f15 3 = 0) (hf19 : f15 5 = 0) (hf20 : f15 6 = 0) (hf21 : f15 7 = 0) (hf22 : f15 8 = 0) (hf23 : f15 10 = 0) (hf24 : f15 11 = 0) (hf25 : f15 12 = 0) (hf26 : f15 13 = 0) (hf27 : f15 15 = 0) (hf28 : f15 16 = 0) (hf29 : f15 17 = 0) (hf30 : f15 18 = 0) (hf31 : f15 20 = 0) (hf32 : f15 21 = 0) (hf33 : f15 22 = 0) (hf34 : f15 23 = 0) (hf35 : f15 25 = 0) (hf36 : f15 26 = 0) (hf37 : f15 27 = 0) (hf38 : f15 28 = 0) (hf39 : f15 30 = 0) (hf40 : f15 31 = 0) (hf41 : f15 32 = 0) (hf42 : f15 33 = 0) (hf43 : f15 35 = 0) (hf44 : f15 36 = 0) (hf45 : f15 37 = 0) (hf46 : f15 38 = 0) (hf49 : f48 2 = x50) (hf51 : f48 1 = 6) (sz : Nat) : Met l yX9_acceptIfFitting [Cond.code yX9_acceptIfFitting cX9_acceptIfFitting 2 none] ({ frames := 3, cells := 0, slots := 0, locals := 73 } : Room) (va_Pc [.ref q1, .ref q2] (PX g sz [(q63, .inr (10, [w64, .int 0, .int 0])), (q1, .inr (11, [.ref q63, w53, w54, w55, w56, w57, w58, w59, w60, w61, w62])), (q47, .inl (g.2 0, 60, .inl f48)), (q14, .inl (g.2 0, 40, .inl f15)), (q10, .inr (5, [.ref q13, .ref q14])), (q2, .inr (8, [.ref q10, w4, .ref q47, w6, .int 1, w8, w9]))])) (QV g [(q63, .inr (10, [w64, .int 0, .int 0])), (q1, .inr (11, [.ref q63, w53, w54, w55, w56, w57, w58, w59, w60, w61, w62])), (q47, .inl (g.2 0, 60, .inl f48)), (q14, .inl (g.2 0, 40, .inl f15)), (q10, .inr (5, [.ref q13, .ref q14])), (q2, .inr (8, [.ref q10, w4, .ref q47, w6, .int 1, w8, w9]))] sz (fun _ => [(q47, .inl (g.2 0, 60, .inl f48)), (q2, .inr (8, [.ref q10, w4, .ref q47, w6, .int 1, w8, w9])), (q14, .inl (g.2 0, 40, .inl (upd (upd (upd (upd (upd (upd (upd (upd (upd f15 1 0) 4 1) 9 1) 14 1) 19 1) 24 1) 29 1) 34 1) 39 1))), (q10, .inr (5, [.ref q13, .ref q14])), (q63, .inr (10, [w64, .int 1, .int 1])), (q1, .inr (11, [.ref q63, w53, w54, w55, w56, w57, w58, w59, .int 0, .int 0, w62]))])) 0 0 (va_A [(q63, .inr (10, [w64, .int 0, .int 0])), (q1, .inr (11, [.ref q63, w53, w54, w55, w56, w57, w58, w59, w60, w61, w62])), (q47, .inl (g.2 0, 60, .inl f48)), (q14, .inl (g.2 0, 40, .inl f15)), (q10, .inr (5, [.ref q13, .ref q14])), (q2, .inr (8, [.ref q10, w4, .ref q47, w6, .int 1, w8, w9]))] sz) := by
  refine ofN (by decide) (Nat.le_of_ble_eq_true rfl) rfl ?_
  intro p e s m args below meth c A ls hAe hsz hx hb hml hr hlocks hin hown hE hP hD hA hS hl
  have hown : s.vm.findClass RX9 = some m.cls := hown
  refine lv_aload_n hx hb dX9_acceptIfFitting_0 rfl (lv_at hl 1 rfl) ?_
  refine gf_RX9_108 hx hb hown hE hP 5 rfl rfl dX9_acceptIfFitting_1 ?_
  refine g_i (wr := [(q63, .inr (10, [w64, .int 0, .int 0])), (q1, .inr (11, [.ref q63, w53, w54, w55, w56, w57, w58, w59, w60, w61, w62])), (q47, .inl (g.2 0, 60, .inl f48)), (q2, .inr (8, [.ref q10, w4, .ref q47, w6, .int 1, w8, w9]))]) (rV (rest := []) hx hb hml hown hE hP hD 4 rfl rfl (c1502_X3_measure l g q10 q13 q14 f15 (hf16) (hf17) (hf18) (hf19) (hf20) (hf21) (hf22) (hf23) (hf24) (hf25) (hf26) (hf27) (hf28) (hf29) (hf30) (hf31) (hf32) (hf33) (hf34) (hf35) (hf36) (hf37) (hf38) (hf39) (hf40) (hf41) (hf42) (hf43) (hf44) (hf45) (hf46) s.heap.size) (kV_X3_measure hE (e694 hE) rfl rfl ⟨(Nat.le_of_ble_eq_true rfl), (Nat.le_of_ble_eq_true rfl)⟩) [3, 4] rfl (by decide) rfl hl.1 rfl (lv_room (Nat.le_of_ble_eq_true rfl)) dX9_acceptIfFitting_4 ⟨(Nat.le_of_ble_eq_true rfl), (Nat.le_of_ble_eq_true rfl)⟩) hP hD hS hA [3, 4] [0, 1, 2, 5] rfl rfl (by decide) (by decide) (fun u1 H locs hP hD hS => ?_)
  have hP : va_P g.1 vwCl [(q63, .inr (10, [w64, .int 0, .int 0])), (q1, .inr (11, [.ref q63, w53, w54, w55, w56, w57, w58, w59, w60, w61, w62])), (q47, .inl (g.2 0, 60, .inl f48)), (q2, .inr (8, [.ref q10, w4, .ref q47, w6, .int 1, w8, w9])), (q14, .inl (g.2 0, 40, .inl (upd (upd (upd (upd (upd (upd (upd (upd (upd f15 1 0) 4 1) 9 1) 14 1) 19 1) 24 1) 29 1) 34 1) 39 1))), (q10, .inr (5, [.ref q13, .ref q14]))] H := hP
  have hD : va_D A [(q63, .inr (10, [w64, .int 0, .int 0])), (q1, .inr (11, [.ref q63, w53, w54, w55, w56, w57, w58, w59, w60, w61, w62])), (q47, .inl (g.2 0, 60, .inl f48)), (q2, .inr (8, [.ref q10, w4, .ref q47, w6, .int 1, w8, w9])), (q14, .inl (g.2 0, 40, .inl (upd (upd (upd (upd (upd (upd (upd (upd (upd f15 1 0) 4 1) 9 1) 14 1) 19 1) 24 1) 29 1) 34 1) 39 1))), (q10, .inr (5, [.ref q13, .ref q14]))] := hD
  refine lv_if_eq (tgt := 17) hx hb dX9_acceptIfFitting_7 (by decide) (fun h => absurd h (by decide)) (fun _ => ?_)
  refine lv_aload_n hx hb dX9_acceptIfFitting_10 rfl (lv_at hl 1 rfl) ?_
  refine g_i (wr := [(q63, .inr (10, [w64, .int 0, .int 0])), (q1, .inr (11, [.ref q63, w53, w54, w55, w56, w57, w58, w59, w60, w61, w62]))]) (rV (rest := []) hx hb hml hown hE hP hD 3 rfl rfl (c1563_X6_hasFittingClips l g q2 q10 q47 q14 x50 w4 w6 w8 w9 (.ref q13) f48 (upd (upd (upd (upd (upd (upd (upd (upd (upd f15 1 0) 4 1) 9 1) 14 1) 19 1) 24 1) 29 1) 34 1) 39 1) (hf49) (hf51) (((pk_un (by decide)).trans ((pk_un (by decide)).trans ((pk_un (by decide)).trans ((pk_un (by decide)).trans ((pk_un (by decide)).trans ((pk_un (by decide)).trans ((pk_un (by decide)).trans ((pk_un (by decide)).trans ((pk_un (by decide)).trans hf40)))))))))) (((pk_un (by decide)).trans ((pk_un (by decide)).trans ((pk_un (by decide)).trans ((pk_un (by decide)).trans ((pk_un (by decide)).trans ((pk_un (by decide)).trans ((pk_un (by decide)).trans ((pk_un (by decide)).trans ((pk_un (by decide)).trans hf41)))))))))) H.size) (kV_X6_hasFittingClips hE (e703 hE) rfl rfl ⟨(Nat.le_of_ble_eq_true rfl), (Nat.le_of_ble_eq_true rfl)⟩) [4, 5, 2, 3] rfl (by decide) rfl hl.1 rfl (lv_room (Nat.le_of_ble_eq_true rfl)) dX9_acceptIfFitting_11 ⟨(Nat.le_of_ble_eq_true rfl), (Nat.le_of_ble_eq_true rfl)⟩) hP hD hS hA [4, 5, 2, 3] [0, 1] rfl rfl (by decide) (by decide) (fun u2 H locs hP hD hS => ?_)
  have hP : va_P g.1 vwCl [(q63, .inr (10, [w64, .int 0, .int 0])), (q1, .inr (11, [.ref q63, w53, w54, w55, w56, w57, w58, w59, w60, w61, w62])), (q47, .inl (g.2 0, 60, .inl f48)), (q2, .inr (8, [.ref q10, w4, .ref q47, w6, .int 1, w8, w9])), (q14, .inl (g.2 0, 40, .inl (upd (upd (upd (upd (upd (upd (upd (upd (upd f15 1 0) 4 1) 9 1) 14 1) 19 1) 24 1) 29 1) 34 1) 39 1))), (q10, .inr (5, [.ref q13, .ref q14]))] H := hP
  have hD : va_D A [(q63, .inr (10, [w64, .int 0, .int 0])), (q1, .inr (11, [.ref q63, w53, w54, w55, w56, w57, w58, w59, w60, w61, w62])), (q47, .inl (g.2 0, 60, .inl f48)), (q2, .inr (8, [.ref q10, w4, .ref q47, w6, .int 1, w8, w9])), (q14, .inl (g.2 0, 40, .inl (upd (upd (upd (upd (upd (upd (upd (upd (upd f15 1 0) 4 1) 9 1) 14 1) 19 1) 24 1) 29 1) 34 1) 39 1))), (q10, .inr (5, [.ref q13, .ref q14]))] := hD
  refine lv_if_ne (tgt := 28) hx hb dX9_acceptIfFitting_14 (by decide) (fun _ => ?_) (fun h => absurd h (by decide))
  refine lv_aload_n hx hb dX9_acceptIfFitting_28 rfl (lv_at hl 0 rfl) ?_
  refine g_v (wr := [(q47, .inl (g.2 0, 60, .inl f48)), (q2, .inr (8, [.ref q10, w4, .ref q47, w6, .int 1, w8, w9])), (q14, .inl (g.2 0, 40, .inl (upd (upd (upd (upd (upd (upd (upd (upd (upd f15 1 0) 4 1) 9 1) 14 1) 19 1) 24 1) 29 1) 34 1) 39 1))), (q10, .inr (5, [.ref q13, .ref q14]))]) (rV (rest := []) hx hb hml hown hE hP hD 1 rfl rfl (c191_X9_accept l g q1 q63 w53 w54 w55 w56 w57 w58 w59 w60 w61 w62 w64 H.size) (kV_X9_accept hE (e718 hE) rfl rfl ⟨(Nat.le_of_ble_eq_true rfl), (Nat.le_of_ble_eq_true rfl)⟩) [0, 1] rfl (by decide) rfl hl.1 rfl (lv_room (Nat.le_of_ble_eq_true rfl)) dX9_acceptIfFitting_29 ⟨(Nat.le_of_ble_eq_true rfl), (Nat.le_of_ble_eq_true rfl)⟩) hP hD hS hA [0, 1] [2, 3, 4, 5] rfl rfl (by decide) (by decide) (fun u3 H locs hP hD hS => ?_)
  have hP : va_P g.1 vwCl [(q47, .inl (g.2 0, 60, .inl f48)), (q2, .inr (8, [.ref q10, w4, .ref q47, w6, .int 1, w8, w9])), (q14, .inl (g.2 0, 40, .inl (upd (upd (upd (upd (upd (upd (upd (upd (upd f15 1 0) 4 1) 9 1) 14 1) 19 1) 24 1) 29 1) 34 1) 39 1))), (q10, .inr (5, [.ref q13, .ref q14])), (q63, .inr (10, [w64, .int 1, .int 1])), (q1, .inr (11, [.ref q63, w53, w54, w55, w56, w57, w58, w59, .int 0, .int 0, w62]))] H := hP
  have hD : va_D A [(q47, .inl (g.2 0, 60, .inl f48)), (q2, .inr (8, [.ref q10, w4, .ref q47, w6, .int 1, w8, w9])), (q14, .inl (g.2 0, 40, .inl (upd (upd (upd (upd (upd (upd (upd (upd (upd f15 1 0) 4 1) 9 1) 14 1) 19 1) 24 1) 29 1) 34 1) 39 1))), (q10, .inr (5, [.ref q13, .ref q14])), (q63, .inr (10, [w64, .int 1, .int 1])), (q1, .inr (11, [.ref q63, w53, w54, w55, w56, w57, w58, w59, .int 0, .int 0, w62]))] := hD
  exact x_vret hx hb hr hlocks hP hD hS hAe hsz (Nat.le_of_ble_eq_true rfl) (Nat.le_of_ble_eq_true rfl) (fun _ => 0) [0, 1, 2, 3, 4, 5] (by decide) rfl dX9_acceptIfFitting_32

set_option maxHeartbeats 4000000 in
set_option maxRecDepth 100000 in
theorem c1565_X9_addClip (l : Launch) (g : gG) (q1 q25 q29 q32 q34 q42 q43 q44 q45 q53 q54 q55 q56 q59 q60 q63 q64 q71 q72 q77 q78 : Nat) (x2 x3 x4 x5 : Int32) (w15 w16 w17 w18 w19 w20 w21 w22 w23 w24 w39 w40 w41 w75 w76 : Value) (f30 : Nat → Option Nat) (f65 : Nat → Int32) (f66 : Nat → Int32) (f79 : Nat → Int32) (f80 : Nat → Int32) (hf31 : f30 1 = some q32) (hf33 : f30 0 = some q34) (hf81 : f66 0 = 0) (hf82 : f66 2 = 0) (hf83 : f66 3 = 0) (hf84 : f66 5 = 0) (hf85 : f66 6 = 0) (hf86 : f66 7 = 0) (hf87 : f66 8 = 0) (hf88 : f66 10 = 0) (hf89 : f66 11 = 0) (hf90 : f66 12 = 0) (hf91 : f66 13 = 0) (hf92 : f66 15 = 0) (hf93 : f66 16 = 0) (hf94 : f66 17 = 0) (hf95 : f66 18 = 0) (hf96 : f66 20 = 0) (hf97 : f66 21 = 0) (hf98 : f66 22 = 0) (hf99 : f66 23 = 0) (hf100 : f66 25 = 0) (hf101 : f66 26 = 0) (hf102 : f66 27 = 0) (hf103 : f66 28 = 0) (hf104 : f66 30 = 0) (hf105 : f66 31 = 0) (hf106 : f66 32 = 0) (hf107 : f66 33 = 0) (hf108 : f66 35 = 0) (hf109 : f66 36 = 0) (hf110 : f66 37 = 0) (hf111 : f66 38 = 0) (h6 : (0 : Int32) ≤ x2) (h7 : x2 ≤ 9999) (h8 : (1 : Int32) ≤ x3) (h9 : x3 ≤ 9) (h10 : ((-50) : Int32) ≤ x4) (h11 : x4 ≤ 50) (h12 : (0 : Int32) ≤ x5) (h13 : x5 ≤ 3) (sz : Nat) : Met l yX9_addClip [Cond.code yX9_addClip cX9_addClip 7 (some .int)] ({ frames := 5, cells := 0, slots := 0, locals := 148 } : Room) (va_Pc [.ref q1, .int x2, .int 6, .int x3, .int x4, .int x5] (PX g sz [(q45, .inl (g.2 0, 20, .inl f80)), (q56, .inl (g.2 0, 20, .inl f80)), (q44, .inl (g.2 0, 60, .inl f65)), (q55, .inl (g.2 0, 60, .inl f65)), (q78, .inl (g.2 0, 10, .inl f79)), (q72, .inl (g.2 0, 10, .inl f79)), (q77, .inl (g.2 0, 10, .inl f65)), (q71, .inl (g.2 0, 10, .inl f65)), (q43, .inr (9, [.ref q77, .ref q78, w75, w76])), (q54, .inr (9, [.ref q71, .ref q72, .int 1, .int 0])), (q64, .inl (g.2 0, 40, .inl f66)), (q60, .inl (g.2 0, 40, .inl f66)), (q63, .inl (g.2 0, 384, .inl f65)), (q59, .inl (g.2 0, 384, .inl f65)), (q42, .inr (5, [.ref q63, .ref q64])), (q53, .inr (5, [.ref q59, .ref q60])), (q34, .inr (8, [.ref q53, .ref q54, .ref q55, .ref q56, .int 0, .int 4, .int 0])), (q32, .inr (8, [.ref q42, .ref q43, .ref q44, .ref q45, w39, w40, w41])), (q29, .inl (g.2 3, 10, .inr (.inr (.inr (.inr f30))))), (q25, .inr (10, [.ref q29, .int 0, .int 0])), (q1, .inr (11, [.ref q25, w15, w16, w17, w18, w19, w20, w21, w22, w23, w24]))])) (QI g [(q45, .inl (g.2 0, 20, .inl f80)), (q56, .inl (g.2 0, 20, .inl f80)), (q44, .inl (g.2 0, 60, .inl f65)), (q55, .inl (g.2 0, 60, .inl f65)), (q78, .inl (g.2 0, 10, .inl f79)), (q72, .inl (g.2 0, 10, .inl f79)), (q77, .inl (g.2 0, 10, .inl f65)), (q71, .inl (g.2 0, 10, .inl f65)), (q43, .inr (9, [.ref q77, .ref q78, w75, w76])), (q54, .inr (9, [.ref q71, .ref q72, .int 1, .int 0])), (q64, .inl (g.2 0, 40, .inl f66)), (q60, .inl (g.2 0, 40, .inl f66)), (q63, .inl (g.2 0, 384, .inl f65)), (q59, .inl (g.2 0, 384, .inl f65)), (q42, .inr (5, [.ref q63, .ref q64])), (q53, .inr (5, [.ref q59, .ref q60])), (q34, .inr (8, [.ref q53, .ref q54, .ref q55, .ref q56, .int 0, .int 4, .int 0])), (q32, .inr (8, [.ref q42, .ref q43, .ref q44, .ref q45, w39, w40, w41])), (q29, .inl (g.2 3, 10, .inr (.inr (.inr (.inr f30))))), (q25, .inr (10, [.ref q29, .int 0, .int 0])), (q1, .inr (11, [.ref q25, w15, w16, w17, w18, w19, w20, w21, w22, w23, w24]))] sz 0 (fun _ => [(q29, .inl (g.2 3, 10, .inr (.inr (.inr (.inr f30))))), (q34, .inr (8, [.ref q53, .ref q54, .ref q55, .ref q56, .int 0, .int 4, .int 0])), (q53, .inr (5, [.ref q59, .ref q60])), (q63, .inl (g.2 0, 384, .inl f65)), (q59, .inl (g.2 0, 384, .inl f65)), (q60, .inl (g.2 0, 40, .inl f66)), (q43, .inr (9, [.ref q77, .ref q78, .int 1, .int 0])), (q54, .inr (9, [.ref q71, .ref q72, .int 1, .int 0])), (q77, .inl (g.2 0, 10, .inl f65)), (q71, .inl (g.2 0, 10, .inl f65)), (q78, .inl (g.2 0, 10, .inl f79)), (q72, .inl (g.2 0, 10, .inl f79)), (q55, .inl (g.2 0, 60, .inl f65)), (q45, .inl (g.2 0, 20, .inl f80)), (q56, .inl (g.2 0, 20, .inl f80)), (q44, .inl (g.2 0, 60, .inl (upd (upd (upd (upd (upd f65 0 x2) 1 6) 2 x3) 3 x4) 4 x5))), (q64, .inl (g.2 0, 40, .inl (upd (upd (upd (upd (upd (upd (upd (upd (upd f66 1 0) 4 1) 9 1) 14 1) 19 1) 24 1) 29 1) 34 1) 39 1))), (q42, .inr (5, [.ref q63, .ref q64])), (q25, .inr (10, [.ref q29, .int 1, .int 1])), (q1, .inr (11, [.ref q25, w15, w16, w17, w18, w19, w20, w21, .int 0, .int 0, w24])), (q32, .inr (8, [.ref q42, .ref q43, .ref q44, .ref q45, .int 1, .int 4, .int 0]))])) 0 0 (va_A [(q45, .inl (g.2 0, 20, .inl f80)), (q56, .inl (g.2 0, 20, .inl f80)), (q44, .inl (g.2 0, 60, .inl f65)), (q55, .inl (g.2 0, 60, .inl f65)), (q78, .inl (g.2 0, 10, .inl f79)), (q72, .inl (g.2 0, 10, .inl f79)), (q77, .inl (g.2 0, 10, .inl f65)), (q71, .inl (g.2 0, 10, .inl f65)), (q43, .inr (9, [.ref q77, .ref q78, w75, w76])), (q54, .inr (9, [.ref q71, .ref q72, .int 1, .int 0])), (q64, .inl (g.2 0, 40, .inl f66)), (q60, .inl (g.2 0, 40, .inl f66)), (q63, .inl (g.2 0, 384, .inl f65)), (q59, .inl (g.2 0, 384, .inl f65)), (q42, .inr (5, [.ref q63, .ref q64])), (q53, .inr (5, [.ref q59, .ref q60])), (q34, .inr (8, [.ref q53, .ref q54, .ref q55, .ref q56, .int 0, .int 4, .int 0])), (q32, .inr (8, [.ref q42, .ref q43, .ref q44, .ref q45, w39, w40, w41])), (q29, .inl (g.2 3, 10, .inr (.inr (.inr (.inr f30))))), (q25, .inr (10, [.ref q29, .int 0, .int 0])), (q1, .inr (11, [.ref q25, w15, w16, w17, w18, w19, w20, w21, w22, w23, w24]))] sz) := by
  refine ofN (by decide) (Nat.le_of_ble_eq_true rfl) rfl ?_
  intro p e s m args below meth c A ls hAe hsz hx hb hml hr hlocks hin hown hE hP hD hA hS hl
  have hown : s.vm.findClass RX9 = some m.cls := hown
  refine lv_iload_n hx hb dX9_addClip_0 rfl (lv_at hl 1 rfl) ?_
  refine lv_iconst (v := 0) hx hb dX9_addClip_1 (by decide) ?_
  refine lv_sipush (v := 9999) hx hb dX9_addClip_2 (by decide) ?_
  refine g0_v (rS (rest := []) hx hb hml hown hE hP hD (c1477_X9_requireRange l g x2 h6 h7 s.heap.size) (kS_X9_requireRange hE (e636 hE) rfl rfl ⟨(Nat.le_of_ble_eq_true rfl), (Nat.le_of_ble_eq_true rfl)⟩) [] rfl (by decide) rfl hl.1 rfl (lv_room (Nat.le_of_ble_eq_true rfl)) dX9_addClip_5 ⟨(Nat.le_of_ble_eq_true rfl), (Nat.le_of_ble_eq_true rfl)⟩) hP hD hS hA (fun u9 H locs hP hS => ?_)
  refine lv_iload_n hx hb dX9_addClip_8 rfl (lv_at hl 2 rfl) ?_
  refine lv_iconst (v := 0) hx hb dX9_addClip_9 (by decide) ?_
  refine lv_bipush (v := 7) hx hb dX9_addClip_10 (by decide) ?_
  refine g0_v (rS (rest := []) hx hb hml hown hE hP hD (c1482_X9_requireRange l g 6 (by decide) (by decide) H.size) (kS_X9_requireRange hE (e636 hE) rfl rfl ⟨(Nat.le_of_ble_eq_true rfl), (Nat.le_of_ble_eq_true rfl)⟩) [] rfl (by decide) rfl hl.1 rfl (lv_room (Nat.le_of_ble_eq_true rfl)) dX9_addClip_12 ⟨(Nat.le_of_ble_eq_true rfl), (Nat.le_of_ble_eq_true rfl)⟩) hP hD hS hA (fun u9 H locs hP hS => ?_)
  refine lv_iload_n hx hb dX9_addClip_15 rfl (lv_at hl 3 rfl) ?_
  refine lv_iconst (v := 1) hx hb dX9_addClip_16 (by decide) ?_
  refine lv_bipush (v := 9) hx hb dX9_addClip_17 (by decide) ?_
  refine g0_v (rS (rest := []) hx hb hml hown hE hP hD (c117_X9_requireRange l g x3 h8 h9 H.size) (kS_X9_requireRange hE (e636 hE) rfl rfl ⟨(Nat.le_of_ble_eq_true rfl), (Nat.le_of_ble_eq_true rfl)⟩) [] rfl (by decide) rfl hl.1 rfl (lv_room (Nat.le_of_ble_eq_true rfl)) dX9_addClip_19 ⟨(Nat.le_of_ble_eq_true rfl), (Nat.le_of_ble_eq_true rfl)⟩) hP hD hS hA (fun u9 H locs hP hS => ?_)
  refine lv_iload hx hb dX9_addClip_22 (lv_at hl 4 rfl) ?_
  refine lv_bipush (v := (-50)) hx hb dX9_addClip_24 (by decide) ?_
  refine lv_bipush (v := 50) hx hb dX9_addClip_26 (by decide) ?_
  refine g0_v (rS (rest := []) hx hb hml hown hE hP hD (c1491_X9_requireRange l g x4 h10 h11 H.size) (kS_X9_requireRange hE (e636 hE) rfl rfl ⟨(Nat.le_of_ble_eq_true rfl), (Nat.le_of_ble_eq_true rfl)⟩) [] rfl (by decide) rfl hl.1 rfl (lv_room (Nat.le_of_ble_eq_true rfl)) dX9_addClip_28 ⟨(Nat.le_of_ble_eq_true rfl), (Nat.le_of_ble_eq_true rfl)⟩) hP hD hS hA (fun u9 H locs hP hS => ?_)
  refine lv_iload hx hb dX9_addClip_31 (lv_at hl 5 rfl) ?_
  refine lv_iconst (v := 0) hx hb dX9_addClip_33 (by decide) ?_
  refine lv_iconst (v := 3) hx hb dX9_addClip_34 (by decide) ?_
  refine g0_v (rS (rest := []) hx hb hml hown hE hP hD (c815_X9_requireRange l g x5 h12 h13 H.size) (kS_X9_requireRange hE (e636 hE) rfl rfl ⟨(Nat.le_of_ble_eq_true rfl), (Nat.le_of_ble_eq_true rfl)⟩) [] rfl (by decide) rfl hl.1 rfl (lv_room (Nat.le_of_ble_eq_true rfl)) dX9_addClip_35 ⟨(Nat.le_of_ble_eq_true rfl), (Nat.le_of_ble_eq_true rfl)⟩) hP hD hS hA (fun u9 H locs hP hS => ?_)
  refine lv_aload_n hx hb dX9_addClip_38 rfl (lv_at hl 0 rfl) ?_
  refine gf_RX9_12 hx hb hown hE hP 20 rfl rfl dX9_addClip_39 ?_
  refine g_r (wr := [(q1, .inr (11, [.ref q25, w15, w16, w17, w18, w19, w20, w21, w22, w23, w24]))]) (rV (rest := []) hx hb hml hown hE hP hD 19 rfl rfl (c127_X8_draft l g q25 q29 q32 q34 q42 q53 q59 q63 q60 q64 q43 q54 q71 q77 q72 q78 q55 q44 q56 q45 (.int 0) w39 w40 w41 w75 w76 f30 f65 f66 f79 f80 (hf31) (hf33) H.size) (kV_X8_draft hE (e659 hE) rfl rfl ⟨(Nat.le_of_ble_eq_true rfl), (Nat.le_of_ble_eq_true rfl)⟩) [0, 1, 2, 3, 4, 5, 6, 7, 8, 9, 10, 11, 12, 13, 14, 15, 16, 17, 18, 19] rfl (by decide) rfl hl.1 rfl (lv_room (Nat.le_of_ble_eq_true rfl)) dX9_addClip_42 ⟨(Nat.le_of_ble_eq_true rfl), (Nat.le_of_ble_eq_true rfl)⟩) hP hD hS hA [0, 1, 2, 3, 4, 5, 6, 7, 8, 9, 10, 11, 12, 13, 14, 15, 16, 17, 18, 19] [20] rfl rfl (by decide) (by decide) (fun u6 H locs hP hD hS => ?_)
  have hP : va_P g.1 vwCl [(q1, .inr (11, [.ref q25, w15, w16, w17, w18, w19, w20, w21, w22, w23, w24])), (q29, .inl (g.2 3, 10, .inr (.inr (.inr (.inr f30))))), (q25, .inr (10, [.ref q29, .int 0, .int 0])), (q34, .inr (8, [.ref q53, .ref q54, .ref q55, .ref q56, .int 0, .int 4, .int 0])), (q32, .inr (8, [.ref q42, .ref q43, .ref q44, .ref q45, .int 0, .int 4, .int 0])), (q42, .inr (5, [.ref q63, .ref q64])), (q53, .inr (5, [.ref q59, .ref q60])), (q63, .inl (g.2 0, 384, .inl f65)), (q59, .inl (g.2 0, 384, .inl f65)), (q64, .inl (g.2 0, 40, .inl f66)), (q60, .inl (g.2 0, 40, .inl f66)), (q43, .inr (9, [.ref q77, .ref q78, .int 1, .int 0])), (q54, .inr (9, [.ref q71, .ref q72, .int 1, .int 0])), (q77, .inl (g.2 0, 10, .inl f65)), (q71, .inl (g.2 0, 10, .inl f65)), (q78, .inl (g.2 0, 10, .inl f79)), (q72, .inl (g.2 0, 10, .inl f79)), (q44, .inl (g.2 0, 60, .inl f65)), (q55, .inl (g.2 0, 60, .inl f65)), (q45, .inl (g.2 0, 20, .inl f80)), (q56, .inl (g.2 0, 20, .inl f80))] H := hP
  have hD : va_D A [(q1, .inr (11, [.ref q25, w15, w16, w17, w18, w19, w20, w21, w22, w23, w24])), (q29, .inl (g.2 3, 10, .inr (.inr (.inr (.inr f30))))), (q25, .inr (10, [.ref q29, .int 0, .int 0])), (q34, .inr (8, [.ref q53, .ref q54, .ref q55, .ref q56, .int 0, .int 4, .int 0])), (q32, .inr (8, [.ref q42, .ref q43, .ref q44, .ref q45, .int 0, .int 4, .int 0])), (q42, .inr (5, [.ref q63, .ref q64])), (q53, .inr (5, [.ref q59, .ref q60])), (q63, .inl (g.2 0, 384, .inl f65)), (q59, .inl (g.2 0, 384, .inl f65)), (q64, .inl (g.2 0, 40, .inl f66)), (q60, .inl (g.2 0, 40, .inl f66)), (q43, .inr (9, [.ref q77, .ref q78, .int 1, .int 0])), (q54, .inr (9, [.ref q71, .ref q72, .int 1, .int 0])), (q77, .inl (g.2 0, 10, .inl f65)), (q71, .inl (g.2 0, 10, .inl f65)), (q78, .inl (g.2 0, 10, .inl f79)), (q72, .inl (g.2 0, 10, .inl f79)), (q44, .inl (g.2 0, 60, .inl f65)), (q55, .inl (g.2 0, 60, .inl f65)), (q45, .inl (g.2 0, 20, .inl f80)), (q56, .inl (g.2 0, 20, .inl f80))] := hD
  refine lv_astore (lv' := [(6, .ref q32), (0, .ref q1), (1, .int x2), (2, .int 6), (3, .int x3), (4, .int x4), (5, .int x5)]) hx hb dX9_addClip_45 hl (by decide) rfl (fun ls hl => ?_)
  refine lv_aload hx hb dX9_addClip_47 (lv_at hl 0 rfl) ?_
  refine g_i (wr := [(q1, .inr (11, [.ref q25, w15, w16, w17, w18, w19, w20, w21, w22, w23, w24])), (q29, .inl (g.2 3, 10, .inr (.inr (.inr (.inr f30))))), (q25, .inr (10, [.ref q29, .int 0, .int 0])), (q34, .inr (8, [.ref q53, .ref q54, .ref q55, .ref q56, .int 0, .int 4, .int 0])), (q42, .inr (5, [.ref q63, .ref q64])), (q53, .inr (5, [.ref q59, .ref q60])), (q63, .inl (g.2 0, 384, .inl f65)), (q59, .inl (g.2 0, 384, .inl f65)), (q64, .inl (g.2 0, 40, .inl f66)), (q60, .inl (g.2 0, 40, .inl f66)), (q43, .inr (9, [.ref q77, .ref q78, .int 1, .int 0])), (q54, .inr (9, [.ref q71, .ref q72, .int 1, .int 0])), (q77, .inl (g.2 0, 10, .inl f65)), (q71, .inl (g.2 0, 10, .inl f65)), (q78, .inl (g.2 0, 10, .inl f79)), (q72, .inl (g.2 0, 10, .inl f79)), (q44, .inl (g.2 0, 60, .inl f65)), (q55, .inl (g.2 0, 60, .inl f65)), (q45, .inl (g.2 0, 20, .inl f80)), (q56, .inl (g.2 0, 20, .inl f80))]) (rV (rest := []) hx hb hml hown hE hP hD 4 rfl rfl (c72_X6_clipCount l g q32 (.ref q42) (.ref q43) (.ref q44) (.ref q45) (.int 4) (.int 0) H.size) (kV_X6_clipCount hE (e297 hE) rfl rfl ⟨(Nat.le_of_ble_eq_true rfl), (Nat.le_of_ble_eq_true rfl)⟩) [4] rfl (by decide) rfl hl.1 rfl (lv_room (Nat.le_of_ble_eq_true rfl)) dX9_addClip_49 ⟨(Nat.le_of_ble_eq_true rfl), (Nat.le_of_ble_eq_true rfl)⟩) hP hD hS hA [4] [0, 1, 2, 3, 5, 6, 7, 8, 9, 10, 11, 12, 13, 14, 15, 16, 17, 18, 19, 20] rfl rfl (by decide) (by decide) (fun u7 H locs hP hD hS => ?_)
  have hP : va_P g.1 vwCl [(q1, .inr (11, [.ref q25, w15, w16, w17, w18, w19, w20, w21, w22, w23, w24])), (q29, .inl (g.2 3, 10, .inr (.inr (.inr (.inr f30))))), (q25, .inr (10, [.ref q29, .int 0, .int 0])), (q34, .inr (8, [.ref q53, .ref q54, .ref q55, .ref q56, .int 0, .int 4, .int 0])), (q42, .inr (5, [.ref q63, .ref q64])), (q53, .inr (5, [.ref q59, .ref q60])), (q63, .inl (g.2 0, 384, .inl f65)), (q59, .inl (g.2 0, 384, .inl f65)), (q64, .inl (g.2 0, 40, .inl f66)), (q60, .inl (g.2 0, 40, .inl f66)), (q43, .inr (9, [.ref q77, .ref q78, .int 1, .int 0])), (q54, .inr (9, [.ref q71, .ref q72, .int 1, .int 0])), (q77, .inl (g.2 0, 10, .inl f65)), (q71, .inl (g.2 0, 10, .inl f65)), (q78, .inl (g.2 0, 10, .inl f79)), (q72, .inl (g.2 0, 10, .inl f79)), (q44, .inl (g.2 0, 60, .inl f65)), (q55, .inl (g.2 0, 60, .inl f65)), (q45, .inl (g.2 0, 20, .inl f80)), (q56, .inl (g.2 0, 20, .inl f80)), (q32, .inr (8, [.ref q42, .ref q43, .ref q44, .ref q45, .int 0, .int 4, .int 0]))] H := hP
  have hD : va_D A [(q1, .inr (11, [.ref q25, w15, w16, w17, w18, w19, w20, w21, w22, w23, w24])), (q29, .inl (g.2 3, 10, .inr (.inr (.inr (.inr f30))))), (q25, .inr (10, [.ref q29, .int 0, .int 0])), (q34, .inr (8, [.ref q53, .ref q54, .ref q55, .ref q56, .int 0, .int 4, .int 0])), (q42, .inr (5, [.ref q63, .ref q64])), (q53, .inr (5, [.ref q59, .ref q60])), (q63, .inl (g.2 0, 384, .inl f65)), (q59, .inl (g.2 0, 384, .inl f65)), (q64, .inl (g.2 0, 40, .inl f66)), (q60, .inl (g.2 0, 40, .inl f66)), (q43, .inr (9, [.ref q77, .ref q78, .int 1, .int 0])), (q54, .inr (9, [.ref q71, .ref q72, .int 1, .int 0])), (q77, .inl (g.2 0, 10, .inl f65)), (q71, .inl (g.2 0, 10, .inl f65)), (q78, .inl (g.2 0, 10, .inl f79)), (q72, .inl (g.2 0, 10, .inl f79)), (q44, .inl (g.2 0, 60, .inl f65)), (q55, .inl (g.2 0, 60, .inl f65)), (q45, .inl (g.2 0, 20, .inl f80)), (q56, .inl (g.2 0, 20, .inl f80)), (q32, .inr (8, [.ref q42, .ref q43, .ref q44, .ref q45, .int 0, .int 4, .int 0]))] := hD
  refine lv_bipush (v := 12) hx hb dX9_addClip_52 (by decide) ?_
  refine lv_icmp_lt (tgt := 67) hx hb dX9_addClip_54 (by decide) (fun _ => ?_) (fun h => absurd (by decide) h)
  refine lv_aload hx hb dX9_addClip_67 (lv_at hl 0 rfl) ?_
  refine lv_iload_n hx hb dX9_addClip_69 rfl (lv_at hl 2 rfl) ?_
  refine lv_iload_n hx hb dX9_addClip_70 rfl (lv_at hl 3 rfl) ?_
  refine lv_iload_n hx hb dX9_addClip_71 rfl (lv_at hl 4 rfl) ?_
  refine lv_iload hx hb dX9_addClip_72 (lv_at hl 5 rfl) ?_
  refine lv_iload hx hb dX9_addClip_74 (lv_at hl 6 rfl) ?_
  refine g_v (wr := [(q1, .inr (11, [.ref q25, w15, w16, w17, w18, w19, w20, w21, w22, w23, w24])), (q29, .inl (g.2 3, 10, .inr (.inr (.inr (.inr f30))))), (q25, .inr (10, [.ref q29, .int 0, .int 0])), (q34, .inr (8, [.ref q53, .ref q54, .ref q55, .ref q56, .int 0, .int 4, .int 0])), (q42, .inr (5, [.ref q63, .ref q64])), (q53, .inr (5, [.ref q59, .ref q60])), (q63, .inl (g.2 0, 384, .inl f65)), (q59, .inl (g.2 0, 384, .inl f65)), (q64, .inl (g.2 0, 40, .inl f66)), (q60, .inl (g.2 0, 40, .inl f66)), (q43, .inr (9, [.ref q77, .ref q78, .int 1, .int 0])), (q54, .inr (9, [.ref q71, .ref q72, .int 1, .int 0])), (q77, .inl (g.2 0, 10, .inl f65)), (q71, .inl (g.2 0, 10, .inl f65)), (q78, .inl (g.2 0, 10, .inl f79)), (q72, .inl (g.2 0, 10, .inl f79)), (q55, .inl (g.2 0, 60, .inl f65)), (q45, .inl (g.2 0, 20, .inl f80)), (q56, .inl (g.2 0, 20, .inl f80))]) (rV (rest := []) hx hb hml hown hE hP hD 20 rfl rfl (c1501_X6_putClip l g q32 q44 x2 6 x3 x4 x5 (.ref q42) (.ref q43) (.ref q45) (.int 4) (.int 0) f65 H.size) (kV_X6_putClip hE (e808 hE) rfl rfl ⟨(Nat.le_of_ble_eq_true rfl), (Nat.le_of_ble_eq_true rfl)⟩) [16, 20] rfl (by decide) rfl hl.1 rfl (lv_room (Nat.le_of_ble_eq_true rfl)) dX9_addClip_76 ⟨(Nat.le_of_ble_eq_true rfl), (Nat.le_of_ble_eq_true rfl)⟩) hP hD hS hA [16, 20] [0, 1, 2, 3, 4, 5, 6, 7, 8, 9, 10, 11, 12, 13, 14, 15, 17, 18, 19] rfl rfl (by decide) (by decide) (fun u8 H locs hP hD hS => ?_)
  have hP : va_P g.1 vwCl [(q1, .inr (11, [.ref q25, w15, w16, w17, w18, w19, w20, w21, w22, w23, w24])), (q29, .inl (g.2 3, 10, .inr (.inr (.inr (.inr f30))))), (q25, .inr (10, [.ref q29, .int 0, .int 0])), (q34, .inr (8, [.ref q53, .ref q54, .ref q55, .ref q56, .int 0, .int 4, .int 0])), (q42, .inr (5, [.ref q63, .ref q64])), (q53, .inr (5, [.ref q59, .ref q60])), (q63, .inl (g.2 0, 384, .inl f65)), (q59, .inl (g.2 0, 384, .inl f65)), (q64, .inl (g.2 0, 40, .inl f66)), (q60, .inl (g.2 0, 40, .inl f66)), (q43, .inr (9, [.ref q77, .ref q78, .int 1, .int 0])), (q54, .inr (9, [.ref q71, .ref q72, .int 1, .int 0])), (q77, .inl (g.2 0, 10, .inl f65)), (q71, .inl (g.2 0, 10, .inl f65)), (q78, .inl (g.2 0, 10, .inl f79)), (q72, .inl (g.2 0, 10, .inl f79)), (q55, .inl (g.2 0, 60, .inl f65)), (q45, .inl (g.2 0, 20, .inl f80)), (q56, .inl (g.2 0, 20, .inl f80)), (q32, .inr (8, [.ref q42, .ref q43, .ref q44, .ref q45, .int 1, .int 4, .int 0])), (q44, .inl (g.2 0, 60, .inl (upd (upd (upd (upd (upd f65 0 x2) 1 6) 2 x3) 3 x4) 4 x5)))] H := hP
  have hD : va_D A [(q1, .inr (11, [.ref q25, w15, w16, w17, w18, w19, w20, w21, w22, w23, w24])), (q29, .inl (g.2 3, 10, .inr (.inr (.inr (.inr f30))))), (q25, .inr (10, [.ref q29, .int 0, .int 0])), (q34, .inr (8, [.ref q53, .ref q54, .ref q55, .ref q56, .int 0, .int 4, .int 0])), (q42, .inr (5, [.ref q63, .ref q64])), (q53, .inr (5, [.ref q59, .ref q60])), (q63, .inl (g.2 0, 384, .inl f65)), (q59, .inl (g.2 0, 384, .inl f65)), (q64, .inl (g.2 0, 40, .inl f66)), (q60, .inl (g.2 0, 40, .inl f66)), (q43, .inr (9, [.ref q77, .ref q78, .int 1, .int 0])), (q54, .inr (9, [.ref q71, .ref q72, .int 1, .int 0])), (q77, .inl (g.2 0, 10, .inl f65)), (q71, .inl (g.2 0, 10, .inl f65)), (q78, .inl (g.2 0, 10, .inl f79)), (q72, .inl (g.2 0, 10, .inl f79)), (q55, .inl (g.2 0, 60, .inl f65)), (q45, .inl (g.2 0, 20, .inl f80)), (q56, .inl (g.2 0, 20, .inl f80)), (q32, .inr (8, [.ref q42, .ref q43, .ref q44, .ref q45, .int 1, .int 4, .int 0])), (q44, .inl (g.2 0, 60, .inl (upd (upd (upd (upd (upd f65 0 x2) 1 6) 2 x3) 3 x4) 4 x5)))] := hD
  refine lv_aload_n hx hb dX9_addClip_79 rfl (lv_at hl 1 rfl) ?_
  refine lv_aload hx hb dX9_addClip_80 (lv_at hl 0 rfl) ?_
  refine g_v (wr := [(q29, .inl (g.2 3, 10, .inr (.inr (.inr (.inr f30))))), (q34, .inr (8, [.ref q53, .ref q54, .ref q55, .ref q56, .int 0, .int 4, .int 0])), (q53, .inr (5, [.ref q59, .ref q60])), (q63, .inl (g.2 0, 384, .inl f65)), (q59, .inl (g.2 0, 384, .inl f65)), (q60, .inl (g.2 0, 40, .inl f66)), (q43, .inr (9, [.ref q77, .ref q78, .int 1, .int 0])), (q54, .inr (9, [.ref q71, .ref q72, .int 1, .int 0])), (q77, .inl (g.2 0, 10, .inl f65)), (q71, .inl (g.2 0, 10, .inl f65)), (q78, .inl (g.2 0, 10, .inl f79)), (q72, .inl (g.2 0, 10, .inl f79)), (q55, .inl (g.2 0, 60, .inl f65)), (q45, .inl (g.2 0, 20, .inl f80)), (q56, .inl (g.2 0, 20, .inl f80))]) (rV (rest := []) hx hb hml hown hE hP hD 0 rfl rfl (c1564_X9_acceptIfFitting l g q1 q32 q42 q63 q64 q44 q25 x3 (.ref q43) (.ref q45) (.int 4) (.int 0) w15 w16 w17 w18 w19 w20 w21 w22 w23 w24 (.ref q29) f66 (upd (upd (upd (upd (upd f65 0 x2) 1 6) 2 x3) 3 x4) 4 x5) (hf81) (hf82) (hf83) (hf84) (hf85) (hf86) (hf87) (hf88) (hf89) (hf90) (hf91) (hf92) (hf93) (hf94) (hf95) (hf96) (hf97) (hf98) (hf99) (hf100) (hf101) (hf102) (hf103) (hf104) (hf105) (hf106) (hf107) (hf108) (hf109) (hf110) (hf111) (((pk_un (by decide)).trans ((pk_un (by decide)).trans pk_us))) (((pk_un (by decide)).trans ((pk_un (by decide)).trans ((pk_un (by decide)).trans pk_us)))) H.size) (kV_X9_acceptIfFitting hE (e690 hE) rfl rfl ⟨(Nat.le_of_ble_eq_true rfl), (Nat.le_of_ble_eq_true rfl)⟩) [2, 0, 20, 8, 4, 19] rfl (by decide) rfl hl.1 rfl (lv_room (Nat.le_of_ble_eq_true rfl)) dX9_addClip_82 ⟨(Nat.le_of_ble_eq_true rfl), (Nat.le_of_ble_eq_true rfl)⟩) hP hD hS hA [2, 0, 20, 8, 4, 19] [1, 3, 5, 6, 7, 9, 10, 11, 12, 13, 14, 15, 16, 17, 18] rfl rfl (by decide) (by decide) (fun u9 H locs hP hD hS => ?_)
  have hP : va_P g.1 vwCl [(q29, .inl (g.2 3, 10, .inr (.inr (.inr (.inr f30))))), (q34, .inr (8, [.ref q53, .ref q54, .ref q55, .ref q56, .int 0, .int 4, .int 0])), (q53, .inr (5, [.ref q59, .ref q60])), (q63, .inl (g.2 0, 384, .inl f65)), (q59, .inl (g.2 0, 384, .inl f65)), (q60, .inl (g.2 0, 40, .inl f66)), (q43, .inr (9, [.ref q77, .ref q78, .int 1, .int 0])), (q54, .inr (9, [.ref q71, .ref q72, .int 1, .int 0])), (q77, .inl (g.2 0, 10, .inl f65)), (q71, .inl (g.2 0, 10, .inl f65)), (q78, .inl (g.2 0, 10, .inl f79)), (q72, .inl (g.2 0, 10, .inl f79)), (q55, .inl (g.2 0, 60, .inl f65)), (q45, .inl (g.2 0, 20, .inl f80)), (q56, .inl (g.2 0, 20, .inl f80)), (q44, .inl (g.2 0, 60, .inl (upd (upd (upd (upd (upd f65 0 x2) 1 6) 2 x3) 3 x4) 4 x5))), (q32, .inr (8, [.ref q42, .ref q43, .ref q44, .ref q45, .int 1, .int 4, .int 0])), (q64, .inl (g.2 0, 40, .inl (upd (upd (upd (upd (upd (upd (upd (upd (upd f66 1 0) 4 1) 9 1) 14 1) 19 1) 24 1) 29 1) 34 1) 39 1))), (q42, .inr (5, [.ref q63, .ref q64])), (q25, .inr (10, [.ref q29, .int 1, .int 1])), (q1, .inr (11, [.ref q25, w15, w16, w17, w18, w19, w20, w21, .int 0, .int 0, w24]))] H := hP
  have hD : va_D A [(q29, .inl (g.2 3, 10, .inr (.inr (.inr (.inr f30))))), (q34, .inr (8, [.ref q53, .ref q54, .ref q55, .ref q56, .int 0, .int 4, .int 0])), (q53, .inr (5, [.ref q59, .ref q60])), (q63, .inl (g.2 0, 384, .inl f65)), (q59, .inl (g.2 0, 384, .inl f65)), (q60, .inl (g.2 0, 40, .inl f66)), (q43, .inr (9, [.ref q77, .ref q78, .int 1, .int 0])), (q54, .inr (9, [.ref q71, .ref q72, .int 1, .int 0])), (q77, .inl (g.2 0, 10, .inl f65)), (q71, .inl (g.2 0, 10, .inl f65)), (q78, .inl (g.2 0, 10, .inl f79)), (q72, .inl (g.2 0, 10, .inl f79)), (q55, .inl (g.2 0, 60, .inl f65)), (q45, .inl (g.2 0, 20, .inl f80)), (q56, .inl (g.2 0, 20, .inl f80)), (q44, .inl (g.2 0, 60, .inl (upd (upd (upd (upd (upd f65 0 x2) 1 6) 2 x3) 3 x4) 4 x5))), (q32, .inr (8, [.ref q42, .ref q43, .ref q44, .ref q45, .int 1, .int 4, .int 0])), (q64, .inl (g.2 0, 40, .inl (upd (upd (upd (upd (upd (upd (upd (upd (upd f66 1 0) 4 1) 9 1) 14 1) 19 1) 24 1) 29 1) 34 1) 39 1))), (q42, .inr (5, [.ref q63, .ref q64])), (q25, .inr (10, [.ref q29, .int 1, .int 1])), (q1, .inr (11, [.ref q25, w15, w16, w17, w18, w19, w20, w21, .int 0, .int 0, w24]))] := hD
  refine lv_aload hx hb dX9_addClip_85 (lv_at hl 0 rfl) ?_
  refine g_i (wr := [(q29, .inl (g.2 3, 10, .inr (.inr (.inr (.inr f30))))), (q34, .inr (8, [.ref q53, .ref q54, .ref q55, .ref q56, .int 0, .int 4, .int 0])), (q53, .inr (5, [.ref q59, .ref q60])), (q63, .inl (g.2 0, 384, .inl f65)), (q59, .inl (g.2 0, 384, .inl f65)), (q60, .inl (g.2 0, 40, .inl f66)), (q43, .inr (9, [.ref q77, .ref q78, .int 1, .int 0])), (q54, .inr (9, [.ref q71, .ref q72, .int 1, .int 0])), (q77, .inl (g.2 0, 10, .inl f65)), (q71, .inl (g.2 0, 10, .inl f65)), (q78, .inl (g.2 0, 10, .inl f79)), (q72, .inl (g.2 0, 10, .inl f79)), (q55, .inl (g.2 0, 60, .inl f65)), (q45, .inl (g.2 0, 20, .inl f80)), (q56, .inl (g.2 0, 20, .inl f80)), (q44, .inl (g.2 0, 60, .inl (upd (upd (upd (upd (upd f65 0 x2) 1 6) 2 x3) 3 x4) 4 x5))), (q64, .inl (g.2 0, 40, .inl (upd (upd (upd (upd (upd (upd (upd (upd (upd f66 1 0) 4 1) 9 1) 14 1) 19 1) 24 1) 29 1) 34 1) 39 1))), (q42, .inr (5, [.ref q63, .ref q64])), (q25, .inr (10, [.ref q29, .int 1, .int 1])), (q1, .inr (11, [.ref q25, w15, w16, w17, w18, w19, w20, w21, .int 0, .int 0, w24]))]) (rV (rest := []) hx hb hml hown hE hP hD 16 rfl rfl (c1509_X6_clipCount l g q32 (.ref q42) (.ref q43) (.ref q44) (.ref q45) (.int 4) (.int 0) H.size) (kV_X6_clipCount hE (e297 hE) rfl rfl ⟨(Nat.le_of_ble_eq_true rfl), (Nat.le_of_ble_eq_true rfl)⟩) [16] rfl (by decide) rfl hl.1 rfl (lv_room (Nat.le_of_ble_eq_true rfl)) dX9_addClip_87 ⟨(Nat.le_of_ble_eq_true rfl), (Nat.le_of_ble_eq_true rfl)⟩) hP hD hS hA [16] [0, 1, 2, 3, 4, 5, 6, 7, 8, 9, 10, 11, 12, 13, 14, 15, 17, 18, 19, 20] rfl rfl (by decide) (by decide) (fun u10 H locs hP hD hS => ?_)
  have hP : va_P g.1 vwCl [(q29, .inl (g.2 3, 10, .inr (.inr (.inr (.inr f30))))), (q34, .inr (8, [.ref q53, .ref q54, .ref q55, .ref q56, .int 0, .int 4, .int 0])), (q53, .inr (5, [.ref q59, .ref q60])), (q63, .inl (g.2 0, 384, .inl f65)), (q59, .inl (g.2 0, 384, .inl f65)), (q60, .inl (g.2 0, 40, .inl f66)), (q43, .inr (9, [.ref q77, .ref q78, .int 1, .int 0])), (q54, .inr (9, [.ref q71, .ref q72, .int 1, .int 0])), (q77, .inl (g.2 0, 10, .inl f65)), (q71, .inl (g.2 0, 10, .inl f65)), (q78, .inl (g.2 0, 10, .inl f79)), (q72, .inl (g.2 0, 10, .inl f79)), (q55, .inl (g.2 0, 60, .inl f65)), (q45, .inl (g.2 0, 20, .inl f80)), (q56, .inl (g.2 0, 20, .inl f80)), (q44, .inl (g.2 0, 60, .inl (upd (upd (upd (upd (upd f65 0 x2) 1 6) 2 x3) 3 x4) 4 x5))), (q64, .inl (g.2 0, 40, .inl (upd (upd (upd (upd (upd (upd (upd (upd (upd f66 1 0) 4 1) 9 1) 14 1) 19 1) 24 1) 29 1) 34 1) 39 1))), (q42, .inr (5, [.ref q63, .ref q64])), (q25, .inr (10, [.ref q29, .int 1, .int 1])), (q1, .inr (11, [.ref q25, w15, w16, w17, w18, w19, w20, w21, .int 0, .int 0, w24])), (q32, .inr (8, [.ref q42, .ref q43, .ref q44, .ref q45, .int 1, .int 4, .int 0]))] H := hP
  have hD : va_D A [(q29, .inl (g.2 3, 10, .inr (.inr (.inr (.inr f30))))), (q34, .inr (8, [.ref q53, .ref q54, .ref q55, .ref q56, .int 0, .int 4, .int 0])), (q53, .inr (5, [.ref q59, .ref q60])), (q63, .inl (g.2 0, 384, .inl f65)), (q59, .inl (g.2 0, 384, .inl f65)), (q60, .inl (g.2 0, 40, .inl f66)), (q43, .inr (9, [.ref q77, .ref q78, .int 1, .int 0])), (q54, .inr (9, [.ref q71, .ref q72, .int 1, .int 0])), (q77, .inl (g.2 0, 10, .inl f65)), (q71, .inl (g.2 0, 10, .inl f65)), (q78, .inl (g.2 0, 10, .inl f79)), (q72, .inl (g.2 0, 10, .inl f79)), (q55, .inl (g.2 0, 60, .inl f65)), (q45, .inl (g.2 0, 20, .inl f80)), (q56, .inl (g.2 0, 20, .inl f80)), (q44, .inl (g.2 0, 60, .inl (upd (upd (upd (upd (upd f65 0 x2) 1 6) 2 x3) 3 x4) 4 x5))), (q64, .inl (g.2 0, 40, .inl (upd (upd (upd (upd (upd (upd (upd (upd (upd f66 1 0) 4 1) 9 1) 14 1) 19 1) 24 1) 29 1) 34 1) 39 1))), (q42, .inr (5, [.ref q63, .ref q64])), (q25, .inr (10, [.ref q29, .int 1, .int 1])), (q1, .inr (11, [.ref q25, w15, w16, w17, w18, w19, w20, w21, .int 0, .int 0, w24])), (q32, .inr (8, [.ref q42, .ref q43, .ref q44, .ref q45, .int 1, .int 4, .int 0]))] := hD
  refine lv_iconst (v := 1) hx hb dX9_addClip_90 (by decide) ?_
  refine x_isub (v := 0) hx hb dX9_addClip_91 (by decide) ?_
  exact x_zret hx hb hr rfl rfl hlocks hP hD hS hAe hsz (Nat.le_of_ble_eq_true rfl) (Nat.le_of_ble_eq_true rfl) (fun _ => 0) [0, 1, 2, 3, 4, 5, 6, 7, 8, 9, 10, 11, 12, 13, 14, 15, 16, 17, 18, 19, 20] (by decide) rfl dX9_addClip_92

set_option maxHeartbeats 4000000 in
set_option maxRecDepth 100000 in
theorem c1566_L_addClip (l : Launch) (g : gG) (hlx : l.stackTraces = false) (q1 q6 q26 q30 q33 q35 q43 q44 q45 q46 q54 q55 q56 q57 q60 q61 q64 q65 q72 q73 q78 q79 : Nat) (x2 x3 x4 x5 : Int32) (w16 w17 w18 w19 w20 w21 w22 w23 w24 w25 w40 w41 w42 w76 w77 : Value) (f31 : Nat → Option Nat) (f66 : Nat → Int32) (f67 : Nat → Int32) (f80 : Nat → Int32) (f81 : Nat → Int32) (f113 : Nat → Int64) (hf32 : f31 1 = some q33) (hf34 : f31 0 = some q35) (hf82 : f67 0 = 0) (hf83 : f67 2 = 0) (hf84 : f67 3 = 0) (hf85 : f67 5 = 0) (hf86 : f67 6 = 0) (hf87 : f67 7 = 0) (hf88 : f67 8 = 0) (hf89 : f67 10 = 0) (hf90 : f67 11 = 0) (hf91 : f67 12 = 0) (hf92 : f67 13 = 0) (hf93 : f67 15 = 0) (hf94 : f67 16 = 0) (hf95 : f67 17 = 0) (hf96 : f67 18 = 0) (hf97 : f67 20 = 0) (hf98 : f67 21 = 0) (hf99 : f67 22 = 0) (hf100 : f67 23 = 0) (hf101 : f67 25 = 0) (hf102 : f67 26 = 0) (hf103 : f67 27 = 0) (hf104 : f67 28 = 0) (hf105 : f67 30 = 0) (hf106 : f67 31 = 0) (hf107 : f67 32 = 0) (hf108 : f67 33 = 0) (hf109 : f67 35 = 0) (hf110 : f67 36 = 0) (hf111 : f67 37 = 0) (hf112 : f67 38 = 0) (h7 : (0 : Int32) ≤ x2) (h8 : x2 ≤ 9999) (h9 : (1 : Int32) ≤ x3) (h10 : x3 ≤ 9) (h11 : ((-50) : Int32) ≤ x4) (h12 : x4 ≤ 50) (h13 : (0 : Int32) ≤ x5) (h14 : x5 ≤ 3) (sz : Nat) : Met l yL_addClip [Cond.codeWith yL_addClip cL_addClip 8 (some .int) [(0, 16, 19, 15), (0, 16, 23, 17)]] ({ frames := 6, cells := 0, slots := 0, locals := 174 } : Room) (va_Pc [.ref q1, .int x2, .int 6, .int x3, .int x4, .int x5, .ref q6] (PZ g sz [(q6, .inl (g.2 1, 1, .inr (.inl f113))), (q46, .inl (g.2 0, 20, .inl f81)), (q57, .inl (g.2 0, 20, .inl f81)), (q45, .inl (g.2 0, 60, .inl f66)), (q56, .inl (g.2 0, 60, .inl f66)), (q79, .inl (g.2 0, 10, .inl f80)), (q73, .inl (g.2 0, 10, .inl f80)), (q78, .inl (g.2 0, 10, .inl f66)), (q72, .inl (g.2 0, 10, .inl f66)), (q44, .inr (9, [.ref q78, .ref q79, w76, w77])), (q55, .inr (9, [.ref q72, .ref q73, .int 1, .int 0])), (q65, .inl (g.2 0, 40, .inl f67)), (q61, .inl (g.2 0, 40, .inl f67)), (q64, .inl (g.2 0, 384, .inl f66)), (q60, .inl (g.2 0, 384, .inl f66)), (q43, .inr (5, [.ref q64, .ref q65])), (q54, .inr (5, [.ref q60, .ref q61])), (q35, .inr (8, [.ref q54, .ref q55, .ref q56, .ref q57, .int 0, .int 4, .int 0])), (q33, .inr (8, [.ref q43, .ref q44, .ref q45, .ref q46, w40, w41, w42])), (q30, .inl (g.2 3, 10, .inr (.inr (.inr (.inr f31))))), (q26, .inr (10, [.ref q30, .int 0, .int 0])), (q1, .inr (11, [.ref q26, w16, w17, w18, w19, w20, w21, w22, w23, w24, w25]))])) (QI g [(q6, .inl (g.2 1, 1, .inr (.inl f113))), (q46, .inl (g.2 0, 20, .inl f81)), (q57, .inl (g.2 0, 20, .inl f81)), (q45, .inl (g.2 0, 60, .inl f66)), (q56, .inl (g.2 0, 60, .inl f66)), (q79, .inl (g.2 0, 10, .inl f80)), (q73, .inl (g.2 0, 10, .inl f80)), (q78, .inl (g.2 0, 10, .inl f66)), (q72, .inl (g.2 0, 10, .inl f66)), (q44, .inr (9, [.ref q78, .ref q79, w76, w77])), (q55, .inr (9, [.ref q72, .ref q73, .int 1, .int 0])), (q65, .inl (g.2 0, 40, .inl f67)), (q61, .inl (g.2 0, 40, .inl f67)), (q64, .inl (g.2 0, 384, .inl f66)), (q60, .inl (g.2 0, 384, .inl f66)), (q43, .inr (5, [.ref q64, .ref q65])), (q54, .inr (5, [.ref q60, .ref q61])), (q35, .inr (8, [.ref q54, .ref q55, .ref q56, .ref q57, .int 0, .int 4, .int 0])), (q33, .inr (8, [.ref q43, .ref q44, .ref q45, .ref q46, w40, w41, w42])), (q30, .inl (g.2 3, 10, .inr (.inr (.inr (.inr f31))))), (q26, .inr (10, [.ref q30, .int 0, .int 0])), (q1, .inr (11, [.ref q26, w16, w17, w18, w19, w20, w21, w22, w23, w24, w25]))] sz 0 (fun _ => [(q6, .inl (g.2 1, 1, .inr (.inl (vp_updL f113 0 0))))])) 0 0 (va_A [(q6, .inl (g.2 1, 1, .inr (.inl f113))), (q46, .inl (g.2 0, 20, .inl f81)), (q57, .inl (g.2 0, 20, .inl f81)), (q45, .inl (g.2 0, 60, .inl f66)), (q56, .inl (g.2 0, 60, .inl f66)), (q79, .inl (g.2 0, 10, .inl f80)), (q73, .inl (g.2 0, 10, .inl f80)), (q78, .inl (g.2 0, 10, .inl f66)), (q72, .inl (g.2 0, 10, .inl f66)), (q44, .inr (9, [.ref q78, .ref q79, w76, w77])), (q55, .inr (9, [.ref q72, .ref q73, .int 1, .int 0])), (q65, .inl (g.2 0, 40, .inl f67)), (q61, .inl (g.2 0, 40, .inl f67)), (q64, .inl (g.2 0, 384, .inl f66)), (q60, .inl (g.2 0, 384, .inl f66)), (q43, .inr (5, [.ref q64, .ref q65])), (q54, .inr (5, [.ref q60, .ref q61])), (q35, .inr (8, [.ref q54, .ref q55, .ref q56, .ref q57, .int 0, .int 4, .int 0])), (q33, .inr (8, [.ref q43, .ref q44, .ref q45, .ref q46, w40, w41, w42])), (q30, .inl (g.2 3, 10, .inr (.inr (.inr (.inr f31))))), (q26, .inr (10, [.ref q30, .int 0, .int 0])), (q1, .inr (11, [.ref q26, w16, w17, w18, w19, w20, w21, w22, w23, w24, w25]))] sz) := by
  refine ofH (by decide) (Nat.le_of_ble_eq_true rfl) rfl ?_
  intro p e s m args below meth c A ls hAe hsz hx hb hml hr hlocks hin hown hE hP hD hA hS hl htb hz
  have hown : s.vm.findClass RL = some m.cls := hown
  refine lv_aload hx hb dL_addClip_0 (lv_at hl 6 rfl) ?_
  refine lv_iconst (v := 0) hx hb dL_addClip_2 (by decide) ?_
  refine lv_aload_n hx hb dL_addClip_3 rfl (lv_at hl 0 rfl) ?_
  refine lv_iload_n hx hb dL_addClip_4 rfl (lv_at hl 1 rfl) ?_
  refine lv_iload_n hx hb dL_addClip_5 rfl (lv_at hl 2 rfl) ?_
  refine lv_iload_n hx hb dL_addClip_6 rfl (lv_at hl 3 rfl) ?_
  refine lv_iload hx hb dL_addClip_7 (lv_at hl 4 rfl) ?_
  refine lv_iload hx hb dL_addClip_9 (lv_at hl 5 rfl) ?_
  refine g_i (wr := [(q6, .inl (g.2 1, 1, .inr (.inl f113)))]) (rV (rest := [.int 0, .ref q6]) hx hb hml hown hE hP hD 21 rfl rfl (c1565_X9_addClip l g q1 q26 q30 q33 q35 q43 q44 q45 q46 q54 q55 q56 q57 q60 q61 q64 q65 q72 q73 q78 q79 x2 x3 x4 x5 w16 w17 w18 w19 w20 w21 w22 w23 w24 w25 w40 w41 w42 w76 w77 f31 f66 f67 f80 f81 (hf32) (hf34) (hf82) (hf83) (hf84) (hf85) (hf86) (hf87) (hf88) (hf89) (hf90) (hf91) (hf92) (hf93) (hf94) (hf95) (hf96) (hf97) (hf98) (hf99) (hf100) (hf101) (hf102) (hf103) (hf104) (hf105) (hf106) (hf107) (hf108) (hf109) (hf110) (hf111) (hf112) h7 h8 h9 h10 h11 h12 h13 h14 s.heap.size) (kV_X9_addClip hE (e803 hE) rfl rfl ⟨(Nat.le_of_ble_eq_true rfl), (Nat.le_of_ble_eq_true rfl)⟩) [1, 2, 3, 4, 5, 6, 7, 8, 9, 10, 11, 12, 13, 14, 15, 16, 17, 18, 19, 20, 21] rfl (by decide) rfl hl.1 rfl (lv_room (Nat.le_of_ble_eq_true rfl)) dL_addClip_11 ⟨(Nat.le_of_ble_eq_true rfl), (Nat.le_of_ble_eq_true rfl)⟩) hP hD hS hA [1, 2, 3, 4, 5, 6, 7, 8, 9, 10, 11, 12, 13, 14, 15, 16, 17, 18, 19, 20, 21] [0] rfl rfl (by decide) (by decide) (fun u1 H locs hP hD hS => ?_)
  have hP : va_P g.1 vwCl [(q6, .inl (g.2 1, 1, .inr (.inl f113))), (q30, .inl (g.2 3, 10, .inr (.inr (.inr (.inr f31))))), (q35, .inr (8, [.ref q54, .ref q55, .ref q56, .ref q57, .int 0, .int 4, .int 0])), (q54, .inr (5, [.ref q60, .ref q61])), (q64, .inl (g.2 0, 384, .inl f66)), (q60, .inl (g.2 0, 384, .inl f66)), (q61, .inl (g.2 0, 40, .inl f67)), (q44, .inr (9, [.ref q78, .ref q79, .int 1, .int 0])), (q55, .inr (9, [.ref q72, .ref q73, .int 1, .int 0])), (q78, .inl (g.2 0, 10, .inl f66)), (q72, .inl (g.2 0, 10, .inl f66)), (q79, .inl (g.2 0, 10, .inl f80)), (q73, .inl (g.2 0, 10, .inl f80)), (q56, .inl (g.2 0, 60, .inl f66)), (q46, .inl (g.2 0, 20, .inl f81)), (q57, .inl (g.2 0, 20, .inl f81)), (q45, .inl (g.2 0, 60, .inl (upd (upd (upd (upd (upd f66 0 x2) 1 6) 2 x3) 3 x4) 4 x5))), (q65, .inl (g.2 0, 40, .inl (upd (upd (upd (upd (upd (upd (upd (upd (upd f67 1 0) 4 1) 9 1) 14 1) 19 1) 24 1) 29 1) 34 1) 39 1))), (q43, .inr (5, [.ref q64, .ref q65])), (q26, .inr (10, [.ref q30, .int 1, .int 1])), (q1, .inr (11, [.ref q26, w16, w17, w18, w19, w20, w21, w22, .int 0, .int 0, w25])), (q33, .inr (8, [.ref q43, .ref q44, .ref q45, .ref q46, .int 1, .int 4, .int 0]))] H := hP
  have hD : va_D A [(q6, .inl (g.2 1, 1, .inr (.inl f113))), (q30, .inl (g.2 3, 10, .inr (.inr (.inr (.inr f31))))), (q35, .inr (8, [.ref q54, .ref q55, .ref q56, .ref q57, .int 0, .int 4, .int 0])), (q54, .inr (5, [.ref q60, .ref q61])), (q64, .inl (g.2 0, 384, .inl f66)), (q60, .inl (g.2 0, 384, .inl f66)), (q61, .inl (g.2 0, 40, .inl f67)), (q44, .inr (9, [.ref q78, .ref q79, .int 1, .int 0])), (q55, .inr (9, [.ref q72, .ref q73, .int 1, .int 0])), (q78, .inl (g.2 0, 10, .inl f66)), (q72, .inl (g.2 0, 10, .inl f66)), (q79, .inl (g.2 0, 10, .inl f80)), (q73, .inl (g.2 0, 10, .inl f80)), (q56, .inl (g.2 0, 60, .inl f66)), (q46, .inl (g.2 0, 20, .inl f81)), (q57, .inl (g.2 0, 20, .inl f81)), (q45, .inl (g.2 0, 60, .inl (upd (upd (upd (upd (upd f66 0 x2) 1 6) 2 x3) 3 x4) 4 x5))), (q65, .inl (g.2 0, 40, .inl (upd (upd (upd (upd (upd (upd (upd (upd (upd f67 1 0) 4 1) 9 1) 14 1) 19 1) 24 1) 29 1) 34 1) 39 1))), (q43, .inr (5, [.ref q64, .ref q65])), (q26, .inr (10, [.ref q30, .int 1, .int 1])), (q1, .inr (11, [.ref q26, w16, w17, w18, w19, w20, w21, w22, .int 0, .int 0, w25])), (q33, .inr (8, [.ref q43, .ref q44, .ref q45, .ref q46, .int 1, .int 4, .int 0]))] := hD
  refine lv_i2l (v := 0) hx hb dL_addClip_14 (by decide) ?_
  refine x_last (ws' := [(q6, .inl (g.2 1, 1, .inr (.inl (vp_updL f113 0 0)))), (q30, .inl (g.2 3, 10, .inr (.inr (.inr (.inr f31))))), (q35, .inr (8, [.ref q54, .ref q55, .ref q56, .ref q57, .int 0, .int 4, .int 0])), (q54, .inr (5, [.ref q60, .ref q61])), (q64, .inl (g.2 0, 384, .inl f66)), (q60, .inl (g.2 0, 384, .inl f66)), (q61, .inl (g.2 0, 40, .inl f67)), (q44, .inr (9, [.ref q78, .ref q79, .int 1, .int 0])), (q55, .inr (9, [.ref q72, .ref q73, .int 1, .int 0])), (q78, .inl (g.2 0, 10, .inl f66)), (q72, .inl (g.2 0, 10, .inl f66)), (q79, .inl (g.2 0, 10, .inl f80)), (q73, .inl (g.2 0, 10, .inl f80)), (q56, .inl (g.2 0, 60, .inl f66)), (q46, .inl (g.2 0, 20, .inl f81)), (q57, .inl (g.2 0, 20, .inl f81)), (q45, .inl (g.2 0, 60, .inl (upd (upd (upd (upd (upd f66 0 x2) 1 6) 2 x3) 3 x4) 4 x5))), (q65, .inl (g.2 0, 40, .inl (upd (upd (upd (upd (upd (upd (upd (upd (upd f67 1 0) 4 1) 9 1) 14 1) 19 1) 24 1) 29 1) 34 1) 39 1))), (q43, .inr (5, [.ref q64, .ref q65])), (q26, .inr (10, [.ref q30, .int 1, .int 1])), (q1, .inr (11, [.ref q26, w16, w17, w18, w19, w20, w21, w22, .int 0, .int 0, w25])), (q33, .inr (8, [.ref q43, .ref q44, .ref q45, .ref q46, .int 1, .int 4, .int 0]))]) hx hb hE hP hD hS 0 rfl 0 (x_in (by decide)) (by decide) dL_addClip_15 rfl (fun H locs hP hD hS => ?_)
  refine lv_goto (tgt := 27) hx hb dL_addClip_16 (by decide) ?_
  refine lv_iconst (v := 0) hx hb dL_addClip_27 (by decide) ?_
  exact x_zret hx hb hr rfl rfl hlocks hP hD hS hAe hsz (Nat.le_of_ble_eq_true rfl) (Nat.le_of_ble_eq_true rfl) (fun _ => 0) [0] (by decide) rfl dL_addClip_28

set_option maxHeartbeats 4000000 in
set_option maxRecDepth 100000 in
theorem c1567_X10_ofClip (l : Launch) (g : gG) (q1 q39 : Nat) (w3 w4 w5 w6 w7 w8 w9 w10 w11 w12 w13 w14 w15 w16 w17 w18 w19 w20 w21 w22 w23 w24 w25 w26 w27 w28 w29 w30 w31 w32 w33 w34 w35 w36 w37 w38 : Value) (f40 : Nat → Int32) (hf41 : f40 394 = 6) (sz : Nat) : Met l yX10_ofClip [Cond.code yX10_ofClip cX10_ofClip 3 (some .int)] ({ frames := 0, cells := 0, slots := 0, locals := 0 } : Room) (va_Pc [.ref q1, .int 0, .int 1] (PX g sz [(q39, .inl (g.2 0, 497, .inl f40)), (q1, .inr (12, [.ref q39, w3, w4, w5, w6, w7, w8, w9, w10, w11, w12, w13, w14, w15, w16, w17, w18, w19, w20, w21, w22, w23, w24, w25, w26, w27, w28, w29, w30, w31, w32, w33, w34, w35, w36, w37, w38]))])) (QI g [(q39, .inl (g.2 0, 497, .inl f40)), (q1, .inr (12, [.ref q39, w3, w4, w5, w6, w7, w8, w9, w10, w11, w12, w13, w14, w15, w16, w17, w18, w19, w20, w21, w22, w23, w24, w25, w26, w27, w28, w29, w30, w31, w32, w33, w34, w35, w36, w37, w38]))] sz 6 (fun _ => [(q39, .inl (g.2 0, 497, .inl f40)), (q1, .inr (12, [.ref q39, w3, w4, w5, w6, w7, w8, w9, w10, w11, w12, w13, w14, w15, w16, w17, w18, w19, w20, w21, w22, w23, w24, w25, w26, w27, w28, w29, w30, w31, w32, w33, w34, w35, w36, w37, w38]))])) 0 0 (va_A [(q39, .inl (g.2 0, 497, .inl f40)), (q1, .inr (12, [.ref q39, w3, w4, w5, w6, w7, w8, w9, w10, w11, w12, w13, w14, w15, w16, w17, w18, w19, w20, w21, w22, w23, w24, w25, w26, w27, w28, w29, w30, w31, w32, w33, w34, w35, w36, w37, w38]))] sz) := by
  refine ofN (by decide) (Nat.le_of_ble_eq_true rfl) rfl ?_
  intro p e s m args below meth c A ls hAe hsz hx hb hml hr hlocks hin hown hE hP hD hA hS hl
  have hown : s.vm.findClass RX10 = some m.cls := hown
  refine lv_aload_n hx hb dX10_ofClip_0 rfl (lv_at hl 0 rfl) ?_
  refine gf_RX10_9 hx hb hown hE hP 1 rfl rfl dX10_ofClip_1 ?_
  refine lv_sipush (v := 393) hx hb dX10_ofClip_4 (by decide) ?_
  refine lv_iconst (v := 5) hx hb dX10_ofClip_7 (by decide) ?_
  refine lv_iload_n hx hb dX10_ofClip_8 rfl (lv_at hl 1 rfl) ?_
  refine x_imul (v := 0) hx hb dX10_ofClip_9 (by decide) ?_
  refine x_iadd (v := 393) hx hb dX10_ofClip_10 (by decide) ?_
  refine lv_iload_n hx hb dX10_ofClip_11 rfl (lv_at hl 2 rfl) ?_
  refine x_iadd (v := 394) hx hb dX10_ofClip_12 (by decide) ?_
  refine x_iald (v := 6) hx hb hE hP 0 rfl 394 (x_in (by decide)) (by decide) hf41 dX10_ofClip_13 ?_
  exact x_zret hx hb hr rfl rfl hlocks hP hD hS hAe hsz (Nat.le_of_ble_eq_true rfl) (Nat.le_of_ble_eq_true rfl) (fun _ => 0) [0, 1] (by decide) rfl dX10_ofClip_14

set_option maxHeartbeats 4000000 in
set_option maxRecDepth 100000 in
theorem c1568_X10_isTooGreat (l : Launch) (g : gG) (q1 q39 q40 q41 : Nat) (x62 : Int32) (w3 w4 w5 w6 w7 w8 w11 w12 w13 w14 w15 w16 w17 w18 w19 w20 w21 w22 w23 w24 w25 w26 w27 w28 w29 w30 w31 w32 w33 w34 w35 w36 w37 w38 : Value) (f42 : Nat → Int32) (f51 : Nat → Int32) (hf43 : f42 0 = 0) (hf44 : f42 49 = 0) (hf45 : f42 98 = 0) (hf46 : f42 147 = 0) (hf47 : f42 196 = 0) (hf48 : f42 245 = 0) (hf49 : f42 294 = 0) (hf50 : f42 343 = 0) (hf52 : f51 0 = 0) (hf53 : f51 1 = 0) (hf54 : f51 2 = 0) (hf55 : f51 3 = 0) (hf56 : f51 4 = 0) (hf57 : f51 5 = 0) (hf58 : f51 6 = 0) (hf59 : f51 7 = 0) (hf60 : f42 392 = 1) (hf61 : f42 395 = x62) (hf63 : f42 394 = 6) (sz : Nat) : Met l yX10_isTooGreat [Cond.code yX10_isTooGreat cX10_isTooGreat 4 (some .boolean)] ({ frames := 3, cells := 0, slots := 0, locals := 66 } : Room) (va_Pc [.ref q1] (PX g sz [(q41, .inl (g.2 0, 8, .inl f51)), (q40, .inl (g.2 0, 8, .inl f51)), (q39, .inl (g.2 0, 497, .inl f42)), (q1, .inr (12, [.ref q39, w3, w4, w5, w6, w7, w8, .ref q40, .ref q41, w11, w12, w13, w14, w15, w16, w17, w18, w19, w20, w21, w22, w23, w24, w25, w26, w27, w28, w29, w30, w31, w32, w33, w34, w35, w36, w37, w38]))])) (QI g [(q41, .inl (g.2 0, 8, .inl f51)), (q40, .inl (g.2 0, 8, .inl f51)), (q39, .inl (g.2 0, 497, .inl f42)), (q1, .inr (12, [.ref q39, w3, w4, w5, w6, w7, w8, .ref q40, .ref q41, w11, w12, w13, w14, w15, w16, w17, w18, w19, w20, w21, w22, w23, w24, w25, w26, w27, w28, w29, w30, w31, w32, w33, w34, w35, w36, w37, w38]))] sz 0 (fun _ => [(q41, .inl (g.2 0, 8, .inl f51)), (q40, .inl (g.2 0, 8, .inl f51)), (q39, .inl (g.2 0, 497, .inl f42)), (q1, .inr (12, [.ref q39, w3, w4, w5, w6, w7, w8, .ref q40, .ref q41, w11, w12, w13, w14, w15, w16, w17, w18, w19, w20, w21, w22, w23, w24, w25, w26, w27, w28, w29, w30, w31, w32, w33, w34, w35, w36, w37, w38]))])) 0 0 (va_A [(q41, .inl (g.2 0, 8, .inl f51)), (q40, .inl (g.2 0, 8, .inl f51)), (q39, .inl (g.2 0, 497, .inl f42)), (q1, .inr (12, [.ref q39, w3, w4, w5, w6, w7, w8, .ref q40, .ref q41, w11, w12, w13, w14, w15, w16, w17, w18, w19, w20, w21, w22, w23, w24, w25, w26, w27, w28, w29, w30, w31, w32, w33, w34, w35, w36, w37, w38]))] sz) := by
  refine ofN (by decide) (Nat.le_of_ble_eq_true rfl) rfl ?_
  intro p e s m args below meth c A ls hAe hsz hx hb hml hr hlocks hin hown hE hP hD hA hS hl
  have hown : s.vm.findClass RX10 = some m.cls := hown
  refine lv_aload_n hx hb dX10_isTooGreat_0 rfl (lv_at hl 0 rfl) ?_
  refine g_v (wr := []) (rV (rest := []) hx hb hml hown hE hP hD 3 rfl rfl (c1241_X10_layLengths l g q1 q39 q40 q41 w3 w4 w5 w6 w7 w8 w11 w12 w13 w14 w15 w16 w17 w18 w19 w20 w21 w22 w23 w24 w25 w26 w27 w28 w29 w30 w31 w32 w33 w34 w35 w36 w37 w38 f42 f51 (hf43) (hf52) (hf44) (hf53) (hf45) (hf54) (hf46) (hf55) (hf47) (hf56) (hf48) (hf57) (hf49) (hf58) (hf50) (hf59) s.heap.size) (kV_X10_layLengths hE (e1452 hE) rfl rfl ⟨(Nat.le_of_ble_eq_true rfl), (Nat.le_of_ble_eq_true rfl)⟩) [0, 1, 2, 3] rfl (by decide) rfl hl.1 rfl (lv_room (Nat.le_of_ble_eq_true rfl)) dX10_isTooGreat_1 ⟨(Nat.le_of_ble_eq_true rfl), (Nat.le_of_ble_eq_true rfl)⟩) hP hD hS hA [0, 1, 2, 3] [] rfl rfl (by decide) (by decide) (fun u1 H locs hP hD hS => ?_)
  have hP : va_P g.1 vwCl [(q41, .inl (g.2 0, 8, .inl f51)), (q40, .inl (g.2 0, 8, .inl f51)), (q39, .inl (g.2 0, 497, .inl f42)), (q1, .inr (12, [.ref q39, w3, w4, w5, w6, w7, w8, .ref q40, .ref q41, w11, w12, w13, w14, w15, w16, w17, w18, w19, w20, w21, w22, w23, w24, w25, w26, w27, w28, w29, w30, w31, w32, w33, w34, w35, w36, w37, w38]))] H := hP
  have hD : va_D A [(q41, .inl (g.2 0, 8, .inl f51)), (q40, .inl (g.2 0, 8, .inl f51)), (q39, .inl (g.2 0, 497, .inl f42)), (q1, .inr (12, [.ref q39, w3, w4, w5, w6, w7, w8, .ref q40, .ref q41, w11, w12, w13, w14, w15, w16, w17, w18, w19, w20, w21, w22, w23, w24, w25, w26, w27, w28, w29, w30, w31, w32, w33, w34, w35, w36, w37, w38]))] := hD
  refine lv_iconst (v := 0) hx hb dX10_isTooGreat_4 (by decide) ?_
  refine lv_istore_n (lv' := [(1, .int 0), (0, .ref q1)]) hx hb dX10_isTooGreat_5 rfl hl (by decide) rfl (fun ls hl => ?_)
  refine lv_iconst (v := 0) hx hb dX10_isTooGreat_6 (by decide) ?_
  refine lv_istore_n (lv' := [(2, .int 0), (1, .int 0), (0, .ref q1)]) hx hb dX10_isTooGreat_7 rfl hl (by decide) rfl (fun ls hl => ?_)
  refine lv_iload_n hx hb dX10_isTooGreat_8 rfl (lv_at hl 0 rfl) ?_
  refine lv_bipush (v := 8) hx hb dX10_isTooGreat_9 (by decide) ?_
  refine lv_icmp_ge (tgt := 40) hx hb dX10_isTooGreat_11 (by decide) (fun h => absurd h (by decide)) (fun _ => ?_)
  refine lv_iload_n hx hb dX10_isTooGreat_14 rfl (lv_at hl 1 rfl) ?_
  refine lv_aload_n hx hb dX10_isTooGreat_15 rfl (lv_at hl 2 rfl) ?_
  refine gf_RX10_22 hx hb hown hE hP 3 rfl rfl dX10_isTooGreat_16 ?_
  refine lv_iload_n hx hb dX10_isTooGreat_19 rfl (lv_at hl 0 rfl) ?_
  refine x_iald (v := 0) hx hb hE hP 1 rfl 0 (x_in (by decide)) (by decide) hf52 dX10_isTooGreat_20 ?_
  refine lv_sipush (v := 20000) hx hb dX10_isTooGreat_21 (by decide) ?_
  refine lv_icmp_le (tgt := 31) hx hb dX10_isTooGreat_24 (by decide) (fun _ => ?_) (fun h => absurd (by decide) h)
  refine lv_iconst (v := 0) hx hb dX10_isTooGreat_31 (by decide) ?_
  refine x_ior (v := 0) hx hb dX10_isTooGreat_32 (by decide) ?_
  refine lv_istore_n (lv' := [(1, .int 0), (2, .int 0), (0, .ref q1)]) hx hb dX10_isTooGreat_33 rfl hl (by decide) rfl (fun ls hl => ?_)
  refine lv_iinc (v := 1) (lv' := [(2, .int 1), (1, .int 0), (0, .ref q1)]) hx hb dX10_isTooGreat_34 hl (k := 1) rfl (by decide) (by decide) rfl (fun ls hl => ?_)
  refine lv_goto (tgt := 8) hx hb dX10_isTooGreat_37 (by decide) ?_
  refine lv_iload_n hx hb dX10_isTooGreat_8 rfl (lv_at hl 0 rfl) ?_
  refine lv_bipush (v := 8) hx hb dX10_isTooGreat_9 (by decide) ?_
  refine lv_icmp_ge (tgt := 40) hx hb dX10_isTooGreat_11 (by decide) (fun h => absurd h (by decide)) (fun _ => ?_)
  refine lv_iload_n hx hb dX10_isTooGreat_14 rfl (lv_at hl 1 rfl) ?_
  refine lv_aload_n hx hb dX10_isTooGreat_15 rfl (lv_at hl 2 rfl) ?_
  refine gf_RX10_22 hx hb hown hE hP 3 rfl rfl dX10_isTooGreat_16 ?_
  refine lv_iload_n hx hb dX10_isTooGreat_19 rfl (lv_at hl 0 rfl) ?_
  refine x_iald (v := 0) hx hb hE hP 1 rfl 1 (x_in (by decide)) (by decide) hf53 dX10_isTooGreat_20 ?_
  refine lv_sipush (v := 20000) hx hb dX10_isTooGreat_21 (by decide) ?_
  refine lv_icmp_le (tgt := 31) hx hb dX10_isTooGreat_24 (by decide) (fun _ => ?_) (fun h => absurd (by decide) h)
  refine lv_iconst (v := 0) hx hb dX10_isTooGreat_31 (by decide) ?_
  refine x_ior (v := 0) hx hb dX10_isTooGreat_32 (by decide) ?_
  refine lv_istore_n (lv' := [(1, .int 0), (2, .int 1), (0, .ref q1)]) hx hb dX10_isTooGreat_33 rfl hl (by decide) rfl (fun ls hl => ?_)
  refine lv_iinc (v := 2) (lv' := [(2, .int 2), (1, .int 0), (0, .ref q1)]) hx hb dX10_isTooGreat_34 hl (k := 1) rfl (by decide) (by decide) rfl (fun ls hl => ?_)
  refine lv_goto (tgt := 8) hx hb dX10_isTooGreat_37 (by decide) ?_
  refine lv_iload_n hx hb dX10_isTooGreat_8 rfl (lv_at hl 0 rfl) ?_
  refine lv_bipush (v := 8) hx hb dX10_isTooGreat_9 (by decide) ?_
  refine lv_icmp_ge (tgt := 40) hx hb dX10_isTooGreat_11 (by decide) (fun h => absurd h (by decide)) (fun _ => ?_)
  refine lv_iload_n hx hb dX10_isTooGreat_14 rfl (lv_at hl 1 rfl) ?_
  refine lv_aload_n hx hb dX10_isTooGreat_15 rfl (lv_at hl 2 rfl) ?_
  refine gf_RX10_22 hx hb hown hE hP 3 rfl rfl dX10_isTooGreat_16 ?_
  refine lv_iload_n hx hb dX10_isTooGreat_19 rfl (lv_at hl 0 rfl) ?_
  refine x_iald (v := 0) hx hb hE hP 1 rfl 2 (x_in (by decide)) (by decide) hf54 dX10_isTooGreat_20 ?_
  refine lv_sipush (v := 20000) hx hb dX10_isTooGreat_21 (by decide) ?_
  refine lv_icmp_le (tgt := 31) hx hb dX10_isTooGreat_24 (by decide) (fun _ => ?_) (fun h => absurd (by decide) h)
  refine lv_iconst (v := 0) hx hb dX10_isTooGreat_31 (by decide) ?_
  refine x_ior (v := 0) hx hb dX10_isTooGreat_32 (by decide) ?_
  refine lv_istore_n (lv' := [(1, .int 0), (2, .int 2), (0, .ref q1)]) hx hb dX10_isTooGreat_33 rfl hl (by decide) rfl (fun ls hl => ?_)
  refine lv_iinc (v := 3) (lv' := [(2, .int 3), (1, .int 0), (0, .ref q1)]) hx hb dX10_isTooGreat_34 hl (k := 1) rfl (by decide) (by decide) rfl (fun ls hl => ?_)
  refine lv_goto (tgt := 8) hx hb dX10_isTooGreat_37 (by decide) ?_
  refine lv_iload_n hx hb dX10_isTooGreat_8 rfl (lv_at hl 0 rfl) ?_
  refine lv_bipush (v := 8) hx hb dX10_isTooGreat_9 (by decide) ?_
  refine lv_icmp_ge (tgt := 40) hx hb dX10_isTooGreat_11 (by decide) (fun h => absurd h (by decide)) (fun _ => ?_)
  refine lv_iload_n hx hb dX10_isTooGreat_14 rfl (lv_at hl 1 rfl) ?_
  refine lv_aload_n hx hb dX10_isTooGreat_15 rfl (lv_at hl 2 rfl) ?_
  refine gf_RX10_22 hx hb hown hE hP 3 rfl rfl dX10_isTooGreat_16 ?_
  refine lv_iload_n hx hb dX10_isTooGreat_19 rfl (lv_at hl 0 rfl) ?_
  refine x_iald (v := 0) hx hb hE hP 1 rfl 3 (x_in (by decide)) (by decide) hf55 dX10_isTooGreat_20 ?_
  refine lv_sipush (v := 20000) hx hb dX10_isTooGreat_21 (by decide) ?_
  refine lv_icmp_le (tgt := 31) hx hb dX10_isTooGreat_24 (by decide) (fun _ => ?_) (fun h => absurd (by decide) h)
  refine lv_iconst (v := 0) hx hb dX10_isTooGreat_31 (by decide) ?_
  refine x_ior (v := 0) hx hb dX10_isTooGreat_32 (by decide) ?_
  refine lv_istore_n (lv' := [(1, .int 0), (2, .int 3), (0, .ref q1)]) hx hb dX10_isTooGreat_33 rfl hl (by decide) rfl (fun ls hl => ?_)
  refine lv_iinc (v := 4) (lv' := [(2, .int 4), (1, .int 0), (0, .ref q1)]) hx hb dX10_isTooGreat_34 hl (k := 1) rfl (by decide) (by decide) rfl (fun ls hl => ?_)
  refine lv_goto (tgt := 8) hx hb dX10_isTooGreat_37 (by decide) ?_
  refine lv_iload_n hx hb dX10_isTooGreat_8 rfl (lv_at hl 0 rfl) ?_
  refine lv_bipush (v := 8) hx hb dX10_isTooGreat_9 (by decide) ?_
  refine lv_icmp_ge (tgt := 40) hx hb dX10_isTooGreat_11 (by decide) (fun h => absurd h (by decide)) (fun _ => ?_)
  refine lv_iload_n hx hb dX10_isTooGreat_14 rfl (lv_at hl 1 rfl) ?_
  refine lv_aload_n hx hb dX10_isTooGreat_15 rfl (lv_at hl 2 rfl) ?_
  refine gf_RX10_22 hx hb hown hE hP 3 rfl rfl dX10_isTooGreat_16 ?_
  refine lv_iload_n hx hb dX10_isTooGreat_19 rfl (lv_at hl 0 rfl) ?_
  refine x_iald (v := 0) hx hb hE hP 1 rfl 4 (x_in (by decide)) (by decide) hf56 dX10_isTooGreat_20 ?_
  refine lv_sipush (v := 20000) hx hb dX10_isTooGreat_21 (by decide) ?_
  refine lv_icmp_le (tgt := 31) hx hb dX10_isTooGreat_24 (by decide) (fun _ => ?_) (fun h => absurd (by decide) h)
  refine lv_iconst (v := 0) hx hb dX10_isTooGreat_31 (by decide) ?_
  refine x_ior (v := 0) hx hb dX10_isTooGreat_32 (by decide) ?_
  refine lv_istore_n (lv' := [(1, .int 0), (2, .int 4), (0, .ref q1)]) hx hb dX10_isTooGreat_33 rfl hl (by decide) rfl (fun ls hl => ?_)
  refine lv_iinc (v := 5) (lv' := [(2, .int 5), (1, .int 0), (0, .ref q1)]) hx hb dX10_isTooGreat_34 hl (k := 1) rfl (by decide) (by decide) rfl (fun ls hl => ?_)
  refine lv_goto (tgt := 8) hx hb dX10_isTooGreat_37 (by decide) ?_
  refine lv_iload_n hx hb dX10_isTooGreat_8 rfl (lv_at hl 0 rfl) ?_
  refine lv_bipush (v := 8) hx hb dX10_isTooGreat_9 (by decide) ?_
  refine lv_icmp_ge (tgt := 40) hx hb dX10_isTooGreat_11 (by decide) (fun h => absurd h (by decide)) (fun _ => ?_)
  refine lv_iload_n hx hb dX10_isTooGreat_14 rfl (lv_at hl 1 rfl) ?_
  refine lv_aload_n hx hb dX10_isTooGreat_15 rfl (lv_at hl 2 rfl) ?_
  refine gf_RX10_22 hx hb hown hE hP 3 rfl rfl dX10_isTooGreat_16 ?_
  refine lv_iload_n hx hb dX10_isTooGreat_19 rfl (lv_at hl 0 rfl) ?_
  refine x_iald (v := 0) hx hb hE hP 1 rfl 5 (x_in (by decide)) (by decide) hf57 dX10_isTooGreat_20 ?_
  refine lv_sipush (v := 20000) hx hb dX10_isTooGreat_21 (by decide) ?_
  refine lv_icmp_le (tgt := 31) hx hb dX10_isTooGreat_24 (by decide) (fun _ => ?_) (fun h => absurd (by decide) h)
  refine lv_iconst (v := 0) hx hb dX10_isTooGreat_31 (by decide) ?_
  refine x_ior (v := 0) hx hb dX10_isTooGreat_32 (by decide) ?_
  refine lv_istore_n (lv' := [(1, .int 0), (2, .int 5), (0, .ref q1)]) hx hb dX10_isTooGreat_33 rfl hl (by decide) rfl (fun ls hl => ?_)
  refine lv_iinc (v := 6) (lv' := [(2, .int 6), (1, .int 0), (0, .ref q1)]) hx hb dX10_isTooGreat_34 hl (k := 1) rfl (by decide) (by decide) rfl (fun ls hl => ?_)
  refine lv_goto (tgt := 8) hx hb dX10_isTooGreat_37 (by decide) ?_
  refine lv_iload_n hx hb dX10_isTooGreat_8 rfl (lv_at hl 0 rfl) ?_
  refine lv_bipush (v := 8) hx hb dX10_isTooGreat_9 (by decide) ?_
  refine lv_icmp_ge (tgt := 40) hx hb dX10_isTooGreat_11 (by decide) (fun h => absurd h (by decide)) (fun _ => ?_)
  refine lv_iload_n hx hb dX10_isTooGreat_14 rfl (lv_at hl 1 rfl) ?_
  refine lv_aload_n hx hb dX10_isTooGreat_15 rfl (lv_at hl 2 rfl) ?_
  refine gf_RX10_22 hx hb hown hE hP 3 rfl rfl dX10_isTooGreat_16 ?_
  refine lv_iload_n hx hb dX10_isTooGreat_19 rfl (lv_at hl 0 rfl) ?_
  refine x_iald (v := 0) hx hb hE hP 1 rfl 6 (x_in (by decide)) (by decide) hf58 dX10_isTooGreat_20 ?_
  refine lv_sipush (v := 20000) hx hb dX10_isTooGreat_21 (by decide) ?_
  refine lv_icmp_le (tgt := 31) hx hb dX10_isTooGreat_24 (by decide) (fun _ => ?_) (fun h => absurd (by decide) h)
  refine lv_iconst (v := 0) hx hb dX10_isTooGreat_31 (by decide) ?_
  refine x_ior (v := 0) hx hb dX10_isTooGreat_32 (by decide) ?_
  refine lv_istore_n (lv' := [(1, .int 0), (2, .int 6), (0, .ref q1)]) hx hb dX10_isTooGreat_33 rfl hl (by decide) rfl (fun ls hl => ?_)
  refine lv_iinc (v := 7) (lv' := [(2, .int 7), (1, .int 0), (0, .ref q1)]) hx hb dX10_isTooGreat_34 hl (k := 1) rfl (by decide) (by decide) rfl (fun ls hl => ?_)
  refine lv_goto (tgt := 8) hx hb dX10_isTooGreat_37 (by decide) ?_
  refine lv_iload_n hx hb dX10_isTooGreat_8 rfl (lv_at hl 0 rfl) ?_
  refine lv_bipush (v := 8) hx hb dX10_isTooGreat_9 (by decide) ?_
  refine lv_icmp_ge (tgt := 40) hx hb dX10_isTooGreat_11 (by decide) (fun h => absurd h (by decide)) (fun _ => ?_)
  refine lv_iload_n hx hb dX10_isTooGreat_14 rfl (lv_at hl 1 rfl) ?_
  refine lv_aload_n hx hb dX10_isTooGreat_15 rfl (lv_at hl 2 rfl) ?_
  refine gf_RX10_22 hx hb hown hE hP 3 rfl rfl dX10_isTooGreat_16 ?_
  refine lv_iload_n hx hb dX10_isTooGreat_19 rfl (lv_at hl 0 rfl) ?_
  refine x_iald (v := 0) hx hb hE hP 1 rfl 7 (x_in (by decide)) (by decide) hf59 dX10_isTooGreat_20 ?_
  refine lv_sipush (v := 20000) hx hb dX10_isTooGreat_21 (by decide) ?_
  refine lv_icmp_le (tgt := 31) hx hb dX10_isTooGreat_24 (by decide) (fun _ => ?_) (fun h => absurd (by decide) h)
  refine lv_iconst (v := 0) hx hb dX10_isTooGreat_31 (by decide) ?_
  refine x_ior (v := 0) hx hb dX10_isTooGreat_32 (by decide) ?_
  refine lv_istore_n (lv' := [(1, .int 0), (2, .int 7), (0, .ref q1)]) hx hb dX10_isTooGreat_33 rfl hl (by decide) rfl (fun ls hl => ?_)
  refine lv_iinc (v := 8) (lv' := [(2, .int 8), (1, .int 0), (0, .ref q1)]) hx hb dX10_isTooGreat_34 hl (k := 1) rfl (by decide) (by decide) rfl (fun ls hl => ?_)
  refine lv_goto (tgt := 8) hx hb dX10_isTooGreat_37 (by decide) ?_
  refine lv_iload_n hx hb dX10_isTooGreat_8 rfl (lv_at hl 0 rfl) ?_
  refine lv_bipush (v := 8) hx hb dX10_isTooGreat_9 (by decide) ?_
  refine lv_icmp_ge (tgt := 40) hx hb dX10_isTooGreat_11 (by decide) (fun _ => ?_) (fun h => absurd (by decide) h)
  refine lv_iconst (v := 0) hx hb dX10_isTooGreat_40 (by decide) ?_
  refine lv_istore_n (lv' := [(2, .int 0), (1, .int 0), (0, .ref q1)]) hx hb dX10_isTooGreat_41 rfl hl (by decide) rfl (fun ls hl => ?_)
  refine lv_iconst (v := 0) hx hb dX10_isTooGreat_42 (by decide) ?_
  refine lv_istore_n (lv' := [(3, .int 0), (2, .int 0), (1, .int 0), (0, .ref q1)]) hx hb dX10_isTooGreat_43 rfl hl (by decide) rfl (fun ls hl => ?_)
  refine lv_iload_n hx hb dX10_isTooGreat_44 rfl (lv_at hl 0 rfl) ?_
  refine lv_aload_n hx hb dX10_isTooGreat_45 rfl (lv_at hl 3 rfl) ?_
  refine gf_RX10_9 hx hb hown hE hP 3 rfl rfl dX10_isTooGreat_46 ?_
  refine lv_sipush (v := 392) hx hb dX10_isTooGreat_49 (by decide) ?_
  refine x_iald (v := 1) hx hb hE hP 2 rfl 392 (x_in (by decide)) (by decide) hf60 dX10_isTooGreat_52 ?_
  refine lv_icmp_ge (tgt := 115) hx hb dX10_isTooGreat_53 (by decide) (fun h => absurd h (by decide)) (fun _ => ?_)
  refine lv_iload_n hx hb dX10_isTooGreat_56 rfl (lv_at hl 2 rfl) ?_
  refine lv_aload_n hx hb dX10_isTooGreat_57 rfl (lv_at hl 3 rfl) ?_
  refine lv_iload_n hx hb dX10_isTooGreat_58 rfl (lv_at hl 0 rfl) ?_
  refine lv_iconst (v := 2) hx hb dX10_isTooGreat_59 (by decide) ?_
  refine g_i (wr := [(q41, .inl (g.2 0, 8, .inl f51)), (q40, .inl (g.2 0, 8, .inl f51))]) (rV (rest := [.int 0]) hx hb hml hown hE hP hD 3 rfl rfl (c1512_X10_ofClip l g q1 q39 x62 w3 w4 w5 w6 w7 w8 (.ref q40) (.ref q41) w11 w12 w13 w14 w15 w16 w17 w18 w19 w20 w21 w22 w23 w24 w25 w26 w27 w28 w29 w30 w31 w32 w33 w34 w35 w36 w37 w38 f42 (hf61) H.size) (kV_X10_ofClip hE (e1466 hE) rfl rfl ⟨(Nat.le_of_ble_eq_true rfl), (Nat.le_of_ble_eq_true rfl)⟩) [2, 3] rfl (by decide) rfl hl.1 rfl (lv_room (Nat.le_of_ble_eq_true rfl)) dX10_isTooGreat_60 ⟨(Nat.le_of_ble_eq_true rfl), (Nat.le_of_ble_eq_true rfl)⟩) hP hD hS hA [2, 3] [0, 1] rfl rfl (by decide) (by decide) (fun u2 H locs hP hD hS => ?_)
  have hP : va_P g.1 vwCl [(q41, .inl (g.2 0, 8, .inl f51)), (q40, .inl (g.2 0, 8, .inl f51)), (q39, .inl (g.2 0, 497, .inl f42)), (q1, .inr (12, [.ref q39, w3, w4, w5, w6, w7, w8, .ref q40, .ref q41, w11, w12, w13, w14, w15, w16, w17, w18, w19, w20, w21, w22, w23, w24, w25, w26, w27, w28, w29, w30, w31, w32, w33, w34, w35, w36, w37, w38]))] H := hP
  have hD : va_D A [(q41, .inl (g.2 0, 8, .inl f51)), (q40, .inl (g.2 0, 8, .inl f51)), (q39, .inl (g.2 0, 497, .inl f42)), (q1, .inr (12, [.ref q39, w3, w4, w5, w6, w7, w8, .ref q40, .ref q41, w11, w12, w13, w14, w15, w16, w17, w18, w19, w20, w21, w22, w23, w24, w25, w26, w27, w28, w29, w30, w31, w32, w33, w34, w35, w36, w37, w38]))] := hD
  refine lv_aload_n hx hb dX10_isTooGreat_63 rfl (lv_at hl 3 rfl) ?_
  refine gf_RX10_22 hx hb hown hE hP 3 rfl rfl dX10_isTooGreat_64 ?_
  refine lv_aload_n hx hb dX10_isTooGreat_67 rfl (lv_at hl 3 rfl) ?_
  refine lv_iload_n hx hb dX10_isTooGreat_68 rfl (lv_at hl 0 rfl) ?_
  refine lv_iconst (v := 1) hx hb dX10_isTooGreat_69 (by decide) ?_
  refine g_i (wr := [(q41, .inl (g.2 0, 8, .inl f51)), (q40, .inl (g.2 0, 8, .inl f51))]) (rV (rest := [.ref q40, .int x62, .int 0]) hx hb hml hown hE hP hD 3 rfl rfl (c1567_X10_ofClip l g q1 q39 w3 w4 w5 w6 w7 w8 (.ref q40) (.ref q41) w11 w12 w13 w14 w15 w16 w17 w18 w19 w20 w21 w22 w23 w24 w25 w26 w27 w28 w29 w30 w31 w32 w33 w34 w35 w36 w37 w38 f42 (hf63) H.size) (kV_X10_ofClip hE (e1466 hE) rfl rfl ⟨(Nat.le_of_ble_eq_true rfl), (Nat.le_of_ble_eq_true rfl)⟩) [2, 3] rfl (by decide) rfl hl.1 rfl (lv_room (Nat.le_of_ble_eq_true rfl)) dX10_isTooGreat_70 ⟨(Nat.le_of_ble_eq_true rfl), (Nat.le_of_ble_eq_true rfl)⟩) hP hD hS hA [2, 3] [0, 1] rfl rfl (by decide) (by decide) (fun u3 H locs hP hD hS => ?_)
  have hP : va_P g.1 vwCl [(q41, .inl (g.2 0, 8, .inl f51)), (q40, .inl (g.2 0, 8, .inl f51)), (q39, .inl (g.2 0, 497, .inl f42)), (q1, .inr (12, [.ref q39, w3, w4, w5, w6, w7, w8, .ref q40, .ref q41, w11, w12, w13, w14, w15, w16, w17, w18, w19, w20, w21, w22, w23, w24, w25, w26, w27, w28, w29, w30, w31, w32, w33, w34, w35, w36, w37, w38]))] H := hP
  have hD : va_D A [(q41, .inl (g.2 0, 8, .inl f51)), (q40, .inl (g.2 0, 8, .inl f51)), (q39, .inl (g.2 0, 497, .inl f42)), (q1, .inr (12, [.ref q39, w3, w4, w5, w6, w7, w8, .ref q40, .ref q41, w11, w12, w13, w14, w15, w16, w17, w18, w19, w20, w21, w22, w23, w24, w25, w26, w27, w28, w29, w30, w31, w32, w33, w34, w35, w36, w37, w38]))] := hD
  refine x_iald (v := 0) hx hb hE hP 1 rfl 6 (x_in (by decide)) (by decide) hf58 dX10_isTooGreat_73 ?_
  refine x_imul (v := 0) hx hb dX10_isTooGreat_74 (Int32.mul_zero) ?_
  refine lv_sipush (v := 20000) hx hb dX10_isTooGreat_75 (by decide) ?_
  refine lv_icmp_le (tgt := 85) hx hb dX10_isTooGreat_78 (by decide) (fun _ => ?_) (fun h => absurd (by decide) h)
  refine lv_iconst (v := 0) hx hb dX10_isTooGreat_85 (by decide) ?_
  refine x_ior (v := 0) hx hb dX10_isTooGreat_86 (by decide) ?_
  refine lv_istore_n (lv' := [(1, .int 0), (3, .int 0), (2, .int 0), (0, .ref q1)]) hx hb dX10_isTooGreat_87 rfl hl (by decide) rfl (fun ls hl => ?_)
  refine lv_iload_n hx hb dX10_isTooGreat_88 rfl (lv_at hl 2 rfl) ?_
  refine lv_aload_n hx hb dX10_isTooGreat_89 rfl (lv_at hl 3 rfl) ?_
  refine lv_iload_n hx hb dX10_isTooGreat_90 rfl (lv_at hl 1 rfl) ?_
  refine lv_iconst (v := 2) hx hb dX10_isTooGreat_91 (by decide) ?_
  refine g_i (wr := [(q41, .inl (g.2 0, 8, .inl f51)), (q40, .inl (g.2 0, 8, .inl f51))]) (rV (rest := [.int 0]) hx hb hml hown hE hP hD 3 rfl rfl (c1512_X10_ofClip l g q1 q39 x62 w3 w4 w5 w6 w7 w8 (.ref q40) (.ref q41) w11 w12 w13 w14 w15 w16 w17 w18 w19 w20 w21 w22 w23 w24 w25 w26 w27 w28 w29 w30 w31 w32 w33 w34 w35 w36 w37 w38 f42 (hf61) H.size) (kV_X10_ofClip hE (e1466 hE) rfl rfl ⟨(Nat.le_of_ble_eq_true rfl), (Nat.le_of_ble_eq_true rfl)⟩) [2, 3] rfl (by decide) rfl hl.1 rfl (lv_room (Nat.le_of_ble_eq_true rfl)) dX10_isTooGreat_92 ⟨(Nat.le_of_ble_eq_true rfl), (Nat.le_of_ble_eq_true rfl)⟩) hP hD hS hA [2, 3] [0, 1] rfl rfl (by decide) (by decide) (fun u4 H locs hP hD hS => ?_)
  have hP : va_P g.1 vwCl [(q41, .inl (g.2 0, 8, .inl f51)), (q40, .inl (g.2 0, 8, .inl f51)), (q39, .inl (g.2 0, 497, .inl f42)), (q1, .inr (12, [.ref q39, w3, w4, w5, w6, w7, w8, .ref q40, .ref q41, w11, w12, w13, w14, w15, w16, w17, w18, w19, w20, w21, w22, w23, w24, w25, w26, w27, w28, w29, w30, w31, w32, w33, w34, w35, w36, w37, w38]))] H := hP
  have hD : va_D A [(q41, .inl (g.2 0, 8, .inl f51)), (q40, .inl (g.2 0, 8, .inl f51)), (q39, .inl (g.2 0, 497, .inl f42)), (q1, .inr (12, [.ref q39, w3, w4, w5, w6, w7, w8, .ref q40, .ref q41, w11, w12, w13, w14, w15, w16, w17, w18, w19, w20, w21, w22, w23, w24, w25, w26, w27, w28, w29, w30, w31, w32, w33, w34, w35, w36, w37, w38]))] := hD
  refine lv_aload_n hx hb dX10_isTooGreat_95 rfl (lv_at hl 3 rfl) ?_
  refine gf_RX10_25 hx hb hown hE hP 3 rfl rfl dX10_isTooGreat_96 ?_
  refine lv_aload_n hx hb dX10_isTooGreat_99 rfl (lv_at hl 3 rfl) ?_
  refine lv_iload_n hx hb dX10_isTooGreat_100 rfl (lv_at hl 1 rfl) ?_
  refine lv_iconst (v := 1) hx hb dX10_isTooGreat_101 (by decide) ?_
  refine g_i (wr := [(q41, .inl (g.2 0, 8, .inl f51)), (q40, .inl (g.2 0, 8, .inl f51))]) (rV (rest := [.ref q41, .int x62, .int 0]) hx hb hml hown hE hP hD 3 rfl rfl (c1567_X10_ofClip l g q1 q39 w3 w4 w5 w6 w7 w8 (.ref q40) (.ref q41) w11 w12 w13 w14 w15 w16 w17 w18 w19 w20 w21 w22 w23 w24 w25 w26 w27 w28 w29 w30 w31 w32 w33 w34 w35 w36 w37 w38 f42 (hf63) H.size) (kV_X10_ofClip hE (e1466 hE) rfl rfl ⟨(Nat.le_of_ble_eq_true rfl), (Nat.le_of_ble_eq_true rfl)⟩) [2, 3] rfl (by decide) rfl hl.1 rfl (lv_room (Nat.le_of_ble_eq_true rfl)) dX10_isTooGreat_102 ⟨(Nat.le_of_ble_eq_true rfl), (Nat.le_of_ble_eq_true rfl)⟩) hP hD hS hA [2, 3] [0, 1] rfl rfl (by decide) (by decide) (fun u5 H locs hP hD hS => ?_)
  have hP : va_P g.1 vwCl [(q41, .inl (g.2 0, 8, .inl f51)), (q40, .inl (g.2 0, 8, .inl f51)), (q39, .inl (g.2 0, 497, .inl f42)), (q1, .inr (12, [.ref q39, w3, w4, w5, w6, w7, w8, .ref q40, .ref q41, w11, w12, w13, w14, w15, w16, w17, w18, w19, w20, w21, w22, w23, w24, w25, w26, w27, w28, w29, w30, w31, w32, w33, w34, w35, w36, w37, w38]))] H := hP
  have hD : va_D A [(q41, .inl (g.2 0, 8, .inl f51)), (q40, .inl (g.2 0, 8, .inl f51)), (q39, .inl (g.2 0, 497, .inl f42)), (q1, .inr (12, [.ref q39, w3, w4, w5, w6, w7, w8, .ref q40, .ref q41, w11, w12, w13, w14, w15, w16, w17, w18, w19, w20, w21, w22, w23, w24, w25, w26, w27, w28, w29, w30, w31, w32, w33, w34, w35, w36, w37, w38]))] := hD
  refine x_iald (v := 0) hx hb hE hP 0 rfl 6 (x_in (by decide)) (by decide) hf58 dX10_isTooGreat_105 ?_
  refine x_imul (v := 0) hx hb dX10_isTooGreat_106 (Int32.mul_zero) ?_
  refine x_iadd (v := 0) hx hb dX10_isTooGreat_107 (by decide) ?_
  refine lv_istore_n (lv' := [(2, .int 0), (1, .int 0), (3, .int 0), (0, .ref q1)]) hx hb dX10_isTooGreat_108 rfl hl (by decide) rfl (fun ls hl => ?_)
  refine lv_iinc (v := 1) (lv' := [(3, .int 1), (2, .int 0), (1, .int 0), (0, .ref q1)]) hx hb dX10_isTooGreat_109 hl (k := 2) rfl (by decide) (by decide) rfl (fun ls hl => ?_)
  refine lv_goto (tgt := 44) hx hb dX10_isTooGreat_112 (by decide) ?_
  refine lv_iload_n hx hb dX10_isTooGreat_44 rfl (lv_at hl 0 rfl) ?_
  refine lv_aload_n hx hb dX10_isTooGreat_45 rfl (lv_at hl 3 rfl) ?_
  refine gf_RX10_9 hx hb hown hE hP 3 rfl rfl dX10_isTooGreat_46 ?_
  refine lv_sipush (v := 392) hx hb dX10_isTooGreat_49 (by decide) ?_
  refine x_iald (v := 1) hx hb hE hP 2 rfl 392 (x_in (by decide)) (by decide) hf60 dX10_isTooGreat_52 ?_
  refine lv_icmp_ge (tgt := 115) hx hb dX10_isTooGreat_53 (by decide) (fun _ => ?_) (fun h => absurd (by decide) h)
  refine lv_iload_n hx hb dX10_isTooGreat_115 rfl (lv_at hl 2 rfl) ?_
  refine lv_if_ne (tgt := 126) hx hb dX10_isTooGreat_116 (by decide) (fun h => absurd h (by decide)) (fun _ => ?_)
  refine lv_iload_n hx hb dX10_isTooGreat_119 rfl (lv_at hl 1 rfl) ?_
  refine lv_sipush (v := 300) hx hb dX10_isTooGreat_120 (by decide) ?_
  refine lv_icmp_le (tgt := 130) hx hb dX10_isTooGreat_123 (by decide) (fun _ => ?_) (fun h => absurd (by decide) h)
  refine lv_iconst (v := 0) hx hb dX10_isTooGreat_130 (by decide) ?_
  exact x_zret hx hb hr rfl rfl hlocks hP hD hS hAe hsz (Nat.le_of_ble_eq_true rfl) (Nat.le_of_ble_eq_true rfl) (fun _ => 0) [0, 1, 2, 3] (by decide) rfl dX10_isTooGreat_131

set_option maxHeartbeats 4000000 in
set_option maxRecDepth 100000 in
theorem c1569_X10_addClip (l : Launch) (g : gG) (q1 q51 q54 q56 q57 q74 : Nat) (x2 x3 x4 x5 : Int32) (w7 w9 w12 w15 w16 w17 w18 w19 w20 w21 w22 w23 w24 w25 w26 w27 w28 w29 w30 w31 w32 w33 w34 w35 w36 w37 w38 w39 w40 w41 w42 : Value) (f52 : Nat → Int32) (f55 : Nat → Int32) (hf53 : f52 392 = 0) (hf58 : f52 0 = 0) (hf59 : f52 49 = 0) (hf60 : f52 98 = 0) (hf61 : f52 147 = 0) (hf62 : f52 196 = 0) (hf63 : f52 245 = 0) (hf64 : f52 294 = 0) (hf65 : f52 343 = 0) (hf66 : f55 0 = 0) (hf67 : f55 1 = 0) (hf68 : f55 2 = 0) (hf69 : f55 3 = 0) (hf70 : f55 4 = 0) (hf71 : f55 5 = 0) (hf72 : f55 6 = 0) (hf73 : f55 7 = 0) (h43 : (0 : Int32) ≤ x2) (h44 : x2 ≤ 9999) (h45 : (1 : Int32) ≤ x3) (h46 : x3 ≤ 9) (h47 : ((-50) : Int32) ≤ x4) (h48 : x4 ≤ 50) (h49 : (0 : Int32) ≤ x5) (h50 : x5 ≤ 3) (sz : Nat) : Met l yX10_addClip [Cond.code yX10_addClip cX10_addClip 8 (some .int)] ({ frames := 4, cells := 0, slots := 0, locals := 89 } : Room) (va_Pc [.ref q1, .int x2, .int 6, .int x3, .int x4, .int x5] (PX g sz [(q74, .inl (g.2 0, 3976, .inl f55)), (q57, .inl (g.2 0, 8, .inl f55)), (q56, .inl (g.2 0, 8, .inl f55)), (q54, .inl (g.2 0, 497, .inl f55)), (q51, .inl (g.2 0, 497, .inl f52)), (q1, .inr (12, [.ref q51, w7, .ref q54, w9, .ref q74, .int 0, w12, .ref q56, .ref q57, w15, w16, w17, w18, w19, w20, w21, w22, w23, w24, w25, w26, w27, w28, w29, w30, w31, w32, w33, w34, w35, w36, w37, w38, w39, w40, w41, w42]))])) (QI g [(q74, .inl (g.2 0, 3976, .inl f55)), (q57, .inl (g.2 0, 8, .inl f55)), (q56, .inl (g.2 0, 8, .inl f55)), (q54, .inl (g.2 0, 497, .inl f55)), (q51, .inl (g.2 0, 497, .inl f52)), (q1, .inr (12, [.ref q51, w7, .ref q54, w9, .ref q74, .int 0, w12, .ref q56, .ref q57, w15, w16, w17, w18, w19, w20, w21, w22, w23, w24, w25, w26, w27, w28, w29, w30, w31, w32, w33, w34, w35, w36, w37, w38, w39, w40, w41, w42]))] sz 0 (fun _ => [(q1, .inr (12, [.ref q51, w7, .ref q54, w9, .ref q74, .int 1, .int 0, .ref q56, .ref q57, w15, w16, w17, w18, w19, w20, w21, w22, w23, w24, w25, w26, w27, w28, w29, w30, w31, w32, w33, w34, w35, w36, w37, w38, w39, w40, w41, w42]))])) 0 0 (va_A [(q74, .inl (g.2 0, 3976, .inl f55)), (q57, .inl (g.2 0, 8, .inl f55)), (q56, .inl (g.2 0, 8, .inl f55)), (q54, .inl (g.2 0, 497, .inl f55)), (q51, .inl (g.2 0, 497, .inl f52)), (q1, .inr (12, [.ref q51, w7, .ref q54, w9, .ref q74, .int 0, w12, .ref q56, .ref q57, w15, w16, w17, w18, w19, w20, w21, w22, w23, w24, w25, w26, w27, w28, w29, w30, w31, w32, w33, w34, w35, w36, w37, w38, w39, w40, w41, w42]))] sz) := by
  refine ofN (by decide) (Nat.le_of_ble_eq_true rfl) rfl ?_
  intro p e s m args below meth c A ls hAe hsz hx hb hml hr hlocks hin hown hE hP hD hA hS hl
  have hown : s.vm.findClass RX10 = some m.cls := hown
  refine lv_aload_n hx hb dX10_addClip_0 rfl (lv_at hl 0 rfl) ?_
  refine lv_iconst (v := 0) hx hb dX10_addClip_1 (by decide) ?_
  refine pf_RX10_86 (ws' := [(q74, .inl (g.2 0, 3976, .inl f55)), (q57, .inl (g.2 0, 8, .inl f55)), (q56, .inl (g.2 0, 8, .inl f55)), (q54, .inl (g.2 0, 497, .inl f55)), (q51, .inl (g.2 0, 497, .inl f52)), (q1, .inr (12, [.ref q51, w7, .ref q54, w9, .ref q74, .int 0, .int 0, .ref q56, .ref q57, w15, w16, w17, w18, w19, w20, w21, w22, w23, w24, w25, w26, w27, w28, w29, w30, w31, w32, w33, w34, w35, w36, w37, w38, w39, w40, w41, w42]))]) hx hb hown hE hP hD hS 5 rfl rfl rfl (Nat.le_of_ble_eq_true rfl) dX10_addClip_2 rfl (fun H locs hP hD hS => ?_)
  refine lv_iload_n hx hb dX10_addClip_5 rfl (lv_at hl 1 rfl) ?_
  refine lv_iconst (v := 0) hx hb dX10_addClip_6 (by decide) ?_
  refine lv_sipush (v := 9999) hx hb dX10_addClip_7 (by decide) ?_
  refine g0_i (rS (rest := []) hx hb hml hown hE hP hD (c1480_X10_in l g x2 h43 h44 H.size) (kS_X10_in hE (e1431 hE) rfl rfl ⟨(Nat.le_of_ble_eq_true rfl), (Nat.le_of_ble_eq_true rfl)⟩) [] rfl (by decide) rfl hl.1 rfl (lv_room (Nat.le_of_ble_eq_true rfl)) dX10_addClip_10 ⟨(Nat.le_of_ble_eq_true rfl), (Nat.le_of_ble_eq_true rfl)⟩) hP hD hS hA (fun u9 H locs hP hS => ?_)
  refine lv_if_eq (tgt := 59) hx hb dX10_addClip_13 (by decide) (fun h => absurd h (by decide)) (fun _ => ?_)
  refine lv_iload_n hx hb dX10_addClip_16 rfl (lv_at hl 2 rfl) ?_
  refine g0_i (rS (rest := []) hx hb hml hown hE hP hD (c94_X10_isPattern l g 6 (by decide) (by decide) H.size) (kS_X10_isPattern hE (e1428 hE) rfl rfl ⟨(Nat.le_of_ble_eq_true rfl), (Nat.le_of_ble_eq_true rfl)⟩) [] rfl (by decide) rfl hl.1 rfl (lv_room (Nat.le_of_ble_eq_true rfl)) dX10_addClip_17 ⟨(Nat.le_of_ble_eq_true rfl), (Nat.le_of_ble_eq_true rfl)⟩) hP hD hS hA (fun u9 H locs hP hS => ?_)
  refine lv_if_eq (tgt := 59) hx hb dX10_addClip_20 (by decide) (fun h => absurd h (by decide)) (fun _ => ?_)
  refine lv_iload_n hx hb dX10_addClip_23 rfl (lv_at hl 3 rfl) ?_
  refine lv_iconst (v := 1) hx hb dX10_addClip_24 (by decide) ?_
  refine lv_bipush (v := 9) hx hb dX10_addClip_25 (by decide) ?_
  refine g0_i (rS (rest := []) hx hb hml hown hE hP hD (c196_X10_in l g x3 h45 h46 H.size) (kS_X10_in hE (e1431 hE) rfl rfl ⟨(Nat.le_of_ble_eq_true rfl), (Nat.le_of_ble_eq_true rfl)⟩) [] rfl (by decide) rfl hl.1 rfl (lv_room (Nat.le_of_ble_eq_true rfl)) dX10_addClip_27 ⟨(Nat.le_of_ble_eq_true rfl), (Nat.le_of_ble_eq_true rfl)⟩) hP hD hS hA (fun u9 H locs hP hS => ?_)
  refine lv_if_eq (tgt := 59) hx hb dX10_addClip_30 (by decide) (fun h => absurd h (by decide)) (fun _ => ?_)
  refine lv_iload hx hb dX10_addClip_33 (lv_at hl 4 rfl) ?_
  refine lv_bipush (v := (-50)) hx hb dX10_addClip_35 (by decide) ?_
  refine lv_bipush (v := 50) hx hb dX10_addClip_37 (by decide) ?_
  refine g0_i (rS (rest := []) hx hb hml hown hE hP hD (c1494_X10_in l g x4 h47 h48 H.size) (kS_X10_in hE (e1431 hE) rfl rfl ⟨(Nat.le_of_ble_eq_true rfl), (Nat.le_of_ble_eq_true rfl)⟩) [] rfl (by decide) rfl hl.1 rfl (lv_room (Nat.le_of_ble_eq_true rfl)) dX10_addClip_39 ⟨(Nat.le_of_ble_eq_true rfl), (Nat.le_of_ble_eq_true rfl)⟩) hP hD hS hA (fun u9 H locs hP hS => ?_)
  refine lv_if_eq (tgt := 59) hx hb dX10_addClip_42 (by decide) (fun h => absurd h (by decide)) (fun _ => ?_)
  refine lv_iload hx hb dX10_addClip_45 (lv_at hl 5 rfl) ?_
  refine lv_iconst (v := 0) hx hb dX10_addClip_47 (by decide) ?_
  refine lv_iconst (v := 3) hx hb dX10_addClip_48 (by decide) ?_
  refine g0_i (rS (rest := []) hx hb hml hown hE hP hD (c818_X10_in l g x5 h49 h50 H.size) (kS_X10_in hE (e1431 hE) rfl rfl ⟨(Nat.le_of_ble_eq_true rfl), (Nat.le_of_ble_eq_true rfl)⟩) [] rfl (by decide) rfl hl.1 rfl (lv_room (Nat.le_of_ble_eq_true rfl)) dX10_addClip_49 ⟨(Nat.le_of_ble_eq_true rfl), (Nat.le_of_ble_eq_true rfl)⟩) hP hD hS hA (fun u9 H locs hP hS => ?_)
  refine lv_if_eq (tgt := 59) hx hb dX10_addClip_52 (by decide) (fun h => absurd h (by decide)) (fun _ => ?_)
  refine lv_iconst (v := 1) hx hb dX10_addClip_55 (by decide) ?_
  refine lv_goto (tgt := 60) hx hb dX10_addClip_56 (by decide) ?_
  refine lv_istore (lv' := [(6, .int 1), (0, .ref q1), (1, .int x2), (2, .int 6), (3, .int x3), (4, .int x4), (5, .int x5)]) hx hb dX10_addClip_60 hl (by decide) rfl (fun ls hl => ?_)
  refine lv_iload hx hb dX10_addClip_62 (lv_at hl 0 rfl) ?_
  refine lv_if_ne (tgt := 73) hx hb dX10_addClip_64 (by decide) (fun _ => ?_) (fun h => absurd h (by decide))
  refine lv_aload_n hx hb dX10_addClip_73 rfl (lv_at hl 1 rfl) ?_
  refine gf_RX10_9 hx hb hown hE hP 5 rfl rfl dX10_addClip_74 ?_
  refine lv_sipush (v := 392) hx hb dX10_addClip_77 (by decide) ?_
  refine x_iald (v := 0) hx hb hE hP 4 rfl 392 (x_in (by decide)) (by decide) hf53 dX10_addClip_80 ?_
  refine lv_bipush (v := 12) hx hb dX10_addClip_81 (by decide) ?_
  refine lv_icmp_ne (tgt := 92) hx hb dX10_addClip_83 (by decide) (fun _ => ?_) (fun h => absurd h (by decide))
  refine lv_aload_n hx hb dX10_addClip_92 rfl (lv_at hl 1 rfl) ?_
  refine g_v (wr := [(q74, .inl (g.2 0, 3976, .inl f55)), (q57, .inl (g.2 0, 8, .inl f55)), (q56, .inl (g.2 0, 8, .inl f55))]) (rV (rest := []) hx hb hml hown hE hP hD 5 rfl rfl (c198_X10_putAside l g q1 q54 q51 w7 w9 (.ref q74) (.int 0) (.int 0) (.ref q56) (.ref q57) w15 w16 w17 w18 w19 w20 w21 w22 w23 w24 w25 w26 w27 w28 w29 w30 w31 w32 w33 w34 w35 w36 w37 w38 w39 w40 w41 w42 f52 f55 H.size) (kV_X10_putAside hE (e1437 hE) rfl rfl ⟨(Nat.le_of_ble_eq_true rfl), (Nat.le_of_ble_eq_true rfl)⟩) [3, 4, 5] rfl (by decide) rfl hl.1 rfl (lv_room (Nat.le_of_ble_eq_true rfl)) dX10_addClip_93 ⟨(Nat.le_of_ble_eq_true rfl), (Nat.le_of_ble_eq_true rfl)⟩) hP hD hS hA [3, 4, 5] [0, 1, 2] rfl rfl (by decide) (by decide) (fun u6 H locs hP hD hS => ?_)
  have hP : va_P g.1 vwCl [(q74, .inl (g.2 0, 3976, .inl f55)), (q57, .inl (g.2 0, 8, .inl f55)), (q56, .inl (g.2 0, 8, .inl f55)), (q54, .inl (g.2 0, 497, .inl (cpF 497 f52 f55))), (q51, .inl (g.2 0, 497, .inl f52)), (q1, .inr (12, [.ref q51, w7, .ref q54, w9, .ref q74, .int 0, .int 0, .ref q56, .ref q57, w15, w16, w17, w18, w19, w20, w21, w22, w23, w24, w25, w26, w27, w28, w29, w30, w31, w32, w33, w34, w35, w36, w37, w38, w39, w40, w41, w42]))] H := hP
  have hD : va_D A [(q74, .inl (g.2 0, 3976, .inl f55)), (q57, .inl (g.2 0, 8, .inl f55)), (q56, .inl (g.2 0, 8, .inl f55)), (q54, .inl (g.2 0, 497, .inl (cpF 497 f52 f55))), (q51, .inl (g.2 0, 497, .inl f52)), (q1, .inr (12, [.ref q51, w7, .ref q54, w9, .ref q74, .int 0, .int 0, .ref q56, .ref q57, w15, w16, w17, w18, w19, w20, w21, w22, w23, w24, w25, w26, w27, w28, w29, w30, w31, w32, w33, w34, w35, w36, w37, w38, w39, w40, w41, w42]))] := hD
  refine lv_sipush (v := 393) hx hb dX10_addClip_96 (by decide) ?_
  refine lv_iconst (v := 5) hx hb dX10_addClip_99 (by decide) ?_
  refine lv_aload_n hx hb dX10_addClip_100 rfl (lv_at hl 1 rfl) ?_
  refine gf_RX10_9 hx hb hown hE hP 5 rfl rfl dX10_addClip_101 ?_
  refine lv_sipush (v := 392) hx hb dX10_addClip_104 (by decide) ?_
  refine x_iald (v := 0) hx hb hE hP 4 rfl 392 (x_in (by decide)) (by decide) hf53 dX10_addClip_107 ?_
  refine x_imul (v := 0) hx hb dX10_addClip_108 (by decide) ?_
  refine x_iadd (v := 393) hx hb dX10_addClip_109 (by decide) ?_
  refine lv_istore (lv' := [(7, .int 393), (6, .int 1), (0, .ref q1), (1, .int x2), (2, .int 6), (3, .int x3), (4, .int x4), (5, .int x5)]) hx hb dX10_addClip_110 hl (by decide) rfl (fun ls hl => ?_)
  refine lv_aload_n hx hb dX10_addClip_112 rfl (lv_at hl 2 rfl) ?_
  refine gf_RX10_9 hx hb hown hE hP 5 rfl rfl dX10_addClip_113 ?_
  refine lv_iload hx hb dX10_addClip_116 (lv_at hl 0 rfl) ?_
  refine lv_iload_n hx hb dX10_addClip_118 rfl (lv_at hl 3 rfl) ?_
  refine x_iast (ws' := [(q74, .inl (g.2 0, 3976, .inl f55)), (q57, .inl (g.2 0, 8, .inl f55)), (q56, .inl (g.2 0, 8, .inl f55)), (q54, .inl (g.2 0, 497, .inl (cpF 497 f52 f55))), (q51, .inl (g.2 0, 497, .inl (upd f52 393 x2))), (q1, .inr (12, [.ref q51, w7, .ref q54, w9, .ref q74, .int 0, .int 0, .ref q56, .ref q57, w15, w16, w17, w18, w19, w20, w21, w22, w23, w24, w25, w26, w27, w28, w29, w30, w31, w32, w33, w34, w35, w36, w37, w38, w39, w40, w41, w42]))]) hx hb hE hP hD hS 4 rfl 393 (x_in (by decide)) (by decide) dX10_addClip_119 rfl (fun H locs hP hD hS => ?_)
  refine lv_aload_n hx hb dX10_addClip_120 rfl (lv_at hl 2 rfl) ?_
  refine gf_RX10_9 hx hb hown hE hP 5 rfl rfl dX10_addClip_121 ?_
  refine lv_iload hx hb dX10_addClip_124 (lv_at hl 0 rfl) ?_
  refine lv_iconst (v := 1) hx hb dX10_addClip_126 (by decide) ?_
  refine x_iadd (v := 394) hx hb dX10_addClip_127 (by decide) ?_
  refine lv_iload_n hx hb dX10_addClip_128 rfl (lv_at hl 4 rfl) ?_
  refine x_iast (ws' := [(q74, .inl (g.2 0, 3976, .inl f55)), (q57, .inl (g.2 0, 8, .inl f55)), (q56, .inl (g.2 0, 8, .inl f55)), (q54, .inl (g.2 0, 497, .inl (cpF 497 f52 f55))), (q51, .inl (g.2 0, 497, .inl (upd (upd f52 393 x2) 394 6))), (q1, .inr (12, [.ref q51, w7, .ref q54, w9, .ref q74, .int 0, .int 0, .ref q56, .ref q57, w15, w16, w17, w18, w19, w20, w21, w22, w23, w24, w25, w26, w27, w28, w29, w30, w31, w32, w33, w34, w35, w36, w37, w38, w39, w40, w41, w42]))]) hx hb hE hP hD hS 4 rfl 394 (x_in (by decide)) (by decide) dX10_addClip_129 rfl (fun H locs hP hD hS => ?_)
  refine lv_aload_n hx hb dX10_addClip_130 rfl (lv_at hl 2 rfl) ?_
  refine gf_RX10_9 hx hb hown hE hP 5 rfl rfl dX10_addClip_131 ?_
  refine lv_iload hx hb dX10_addClip_134 (lv_at hl 0 rfl) ?_
  refine lv_iconst (v := 2) hx hb dX10_addClip_136 (by decide) ?_
  refine x_iadd (v := 395) hx hb dX10_addClip_137 (by decide) ?_
  refine lv_iload_n hx hb dX10_addClip_138 rfl (lv_at hl 5 rfl) ?_
  refine x_iast (ws' := [(q74, .inl (g.2 0, 3976, .inl f55)), (q57, .inl (g.2 0, 8, .inl f55)), (q56, .inl (g.2 0, 8, .inl f55)), (q54, .inl (g.2 0, 497, .inl (cpF 497 f52 f55))), (q51, .inl (g.2 0, 497, .inl (upd (upd (upd f52 393 x2) 394 6) 395 x3))), (q1, .inr (12, [.ref q51, w7, .ref q54, w9, .ref q74, .int 0, .int 0, .ref q56, .ref q57, w15, w16, w17, w18, w19, w20, w21, w22, w23, w24, w25, w26, w27, w28, w29, w30, w31, w32, w33, w34, w35, w36, w37, w38, w39, w40, w41, w42]))]) hx hb hE hP hD hS 4 rfl 395 (x_in (by decide)) (by decide) dX10_addClip_139 rfl (fun H locs hP hD hS => ?_)
  refine lv_aload_n hx hb dX10_addClip_140 rfl (lv_at hl 2 rfl) ?_
  refine gf_RX10_9 hx hb hown hE hP 5 rfl rfl dX10_addClip_141 ?_
  refine lv_iload hx hb dX10_addClip_144 (lv_at hl 0 rfl) ?_
  refine lv_iconst (v := 3) hx hb dX10_addClip_146 (by decide) ?_
  refine x_iadd (v := 396) hx hb dX10_addClip_147 (by decide) ?_
  refine lv_iload hx hb dX10_addClip_148 (lv_at hl 6 rfl) ?_
  refine x_iast (ws' := [(q74, .inl (g.2 0, 3976, .inl f55)), (q57, .inl (g.2 0, 8, .inl f55)), (q56, .inl (g.2 0, 8, .inl f55)), (q54, .inl (g.2 0, 497, .inl (cpF 497 f52 f55))), (q51, .inl (g.2 0, 497, .inl (upd (upd (upd (upd f52 393 x2) 394 6) 395 x3) 396 x4))), (q1, .inr (12, [.ref q51, w7, .ref q54, w9, .ref q74, .int 0, .int 0, .ref q56, .ref q57, w15, w16, w17, w18, w19, w20, w21, w22, w23, w24, w25, w26, w27, w28, w29, w30, w31, w32, w33, w34, w35, w36, w37, w38, w39, w40, w41, w42]))]) hx hb hE hP hD hS 4 rfl 396 (x_in (by decide)) (by decide) dX10_addClip_150 rfl (fun H locs hP hD hS => ?_)
  refine lv_aload_n hx hb dX10_addClip_151 rfl (lv_at hl 2 rfl) ?_
  refine gf_RX10_9 hx hb hown hE hP 5 rfl rfl dX10_addClip_152 ?_
  refine lv_iload hx hb dX10_addClip_155 (lv_at hl 0 rfl) ?_
  refine lv_iconst (v := 4) hx hb dX10_addClip_157 (by decide) ?_
  refine x_iadd (v := 397) hx hb dX10_addClip_158 (by decide) ?_
  refine lv_iload hx hb dX10_addClip_159 (lv_at hl 7 rfl) ?_
  refine x_iast (ws' := [(q74, .inl (g.2 0, 3976, .inl f55)), (q57, .inl (g.2 0, 8, .inl f55)), (q56, .inl (g.2 0, 8, .inl f55)), (q54, .inl (g.2 0, 497, .inl (cpF 497 f52 f55))), (q51, .inl (g.2 0, 497, .inl (upd (upd (upd (upd (upd f52 393 x2) 394 6) 395 x3) 396 x4) 397 x5))), (q1, .inr (12, [.ref q51, w7, .ref q54, w9, .ref q74, .int 0, .int 0, .ref q56, .ref q57, w15, w16, w17, w18, w19, w20, w21, w22, w23, w24, w25, w26, w27, w28, w29, w30, w31, w32, w33, w34, w35, w36, w37, w38, w39, w40, w41, w42]))]) hx hb hE hP hD hS 4 rfl 397 (x_in (by decide)) (by decide) dX10_addClip_161 rfl (fun H locs hP hD hS => ?_)
  refine lv_aload_n hx hb dX10_addClip_162 rfl (lv_at hl 2 rfl) ?_
  refine gf_RX10_9 hx hb hown hE hP 5 rfl rfl dX10_addClip_163 ?_
  refine lv_sipush (v := 392) hx hb dX10_addClip_166 (by decide) ?_
  refine lv_dup2_11 hx hb dX10_addClip_169 rfl rfl ?_
  refine x_iald (v := 0) hx hb hE hP 4 rfl 392 (x_in (by decide)) (by decide) ((pk_un (by decide)).trans ((pk_un (by decide)).trans ((pk_un (by decide)).trans ((pk_un (by decide)).trans ((pk_un (by decide)).trans hf53))))) dX10_addClip_170 ?_
  refine lv_iconst (v := 1) hx hb dX10_addClip_171 (by decide) ?_
  refine x_iadd (v := 1) hx hb dX10_addClip_172 (by decide) ?_
  refine x_iast (ws' := [(q74, .inl (g.2 0, 3976, .inl f55)), (q57, .inl (g.2 0, 8, .inl f55)), (q56, .inl (g.2 0, 8, .inl f55)), (q54, .inl (g.2 0, 497, .inl (cpF 497 f52 f55))), (q51, .inl (g.2 0, 497, .inl (upd (upd (upd (upd (upd (upd f52 393 x2) 394 6) 395 x3) 396 x4) 397 x5) 392 1))), (q1, .inr (12, [.ref q51, w7, .ref q54, w9, .ref q74, .int 0, .int 0, .ref q56, .ref q57, w15, w16, w17, w18, w19, w20, w21, w22, w23, w24, w25, w26, w27, w28, w29, w30, w31, w32, w33, w34, w35, w36, w37, w38, w39, w40, w41, w42]))]) hx hb hE hP hD hS 4 rfl 392 (x_in (by decide)) (by decide) dX10_addClip_173 rfl (fun H locs hP hD hS => ?_)
  refine lv_aload_n hx hb dX10_addClip_174 rfl (lv_at hl 2 rfl) ?_
  refine g_i (wr := [(q74, .inl (g.2 0, 3976, .inl f55)), (q54, .inl (g.2 0, 497, .inl (cpF 497 f52 f55)))]) (rV (rest := []) hx hb hml hown hE hP hD 5 rfl rfl (c1568_X10_isTooGreat l g q1 q51 q56 q57 x3 w7 (.ref q54) w9 (.ref q74) (.int 0) (.int 0) w15 w16 w17 w18 w19 w20 w21 w22 w23 w24 w25 w26 w27 w28 w29 w30 w31 w32 w33 w34 w35 w36 w37 w38 w39 w40 w41 w42 (upd (upd (upd (upd (upd (upd f52 393 x2) 394 6) 395 x3) 396 x4) 397 x5) 392 1) f55 (((pk_un (by decide)).trans ((pk_un (by decide)).trans ((pk_un (by decide)).trans ((pk_un (by decide)).trans ((pk_un (by decide)).trans ((pk_un (by decide)).trans hf58))))))) (((pk_un (by decide)).trans ((pk_un (by decide)).trans ((pk_un (by decide)).trans ((pk_un (by decide)).trans ((pk_un (by decide)).trans ((pk_un (by decide)).trans hf59))))))) (((pk_un (by decide)).trans ((pk_un (by decide)).trans ((pk_un (by decide)).trans ((pk_un (by decide)).trans ((pk_un (by decide)).trans ((pk_un (by decide)).trans hf60))))))) (((pk_un (by decide)).trans ((pk_un (by decide)).trans ((pk_un (by decide)).trans ((pk_un (by decide)).trans ((pk_un (by decide)).trans ((pk_un (by decide)).trans hf61))))))) (((pk_un (by decide)).trans ((pk_un (by decide)).trans ((pk_un (by decide)).trans ((pk_un (by decide)).trans ((pk_un (by decide)).trans ((pk_un (by decide)).trans hf62))))))) (((pk_un (by decide)).trans ((pk_un (by decide)).trans ((pk_un (by decide)).trans ((pk_un (by decide)).trans ((pk_un (by decide)).trans ((pk_un (by decide)).trans hf63))))))) (((pk_un (by decide)).trans ((pk_un (by decide)).trans ((pk_un (by decide)).trans ((pk_un (by decide)).trans ((pk_un (by decide)).trans ((pk_un (by decide)).trans hf64))))))) (((pk_un (by decide)).trans ((pk_un (by decide)).trans ((pk_un (by decide)).trans ((pk_un (by decide)).trans ((pk_un (by decide)).trans ((pk_un (by decide)).trans hf65))))))) (hf66) (hf67) (hf68) (hf69) (hf70) (hf71) (hf72) (hf73) (pk_us) (((pk_un (by decide)).trans ((pk_un (by decide)).trans ((pk_un (by decide)).trans pk_us)))) (((pk_un (by decide)).trans ((pk_un (by decide)).trans ((pk_un (by decide)).trans ((pk_un (by decide)).trans pk_us))))) H.size) (kV_X10_isTooGreat hE (e1448 hE) rfl rfl ⟨(Nat.le_of_ble_eq_true rfl), (Nat.le_of_ble_eq_true rfl)⟩) [1, 2, 4, 5] rfl (by decide) rfl hl.1 rfl (lv_room (Nat.le_of_ble_eq_true rfl)) dX10_addClip_175 ⟨(Nat.le_of_ble_eq_true rfl), (Nat.le_of_ble_eq_true rfl)⟩) hP hD hS hA [1, 2, 4, 5] [0, 3] rfl rfl (by decide) (by decide) (fun u7 H locs hP hD hS => ?_)
  have hP : va_P g.1 vwCl [(q74, .inl (g.2 0, 3976, .inl f55)), (q54, .inl (g.2 0, 497, .inl (cpF 497 f52 f55))), (q57, .inl (g.2 0, 8, .inl f55)), (q56, .inl (g.2 0, 8, .inl f55)), (q51, .inl (g.2 0, 497, .inl (upd (upd (upd (upd (upd (upd f52 393 x2) 394 6) 395 x3) 396 x4) 397 x5) 392 1))), (q1, .inr (12, [.ref q51, w7, .ref q54, w9, .ref q74, .int 0, .int 0, .ref q56, .ref q57, w15, w16, w17, w18, w19, w20, w21, w22, w23, w24, w25, w26, w27, w28, w29, w30, w31, w32, w33, w34, w35, w36, w37, w38, w39, w40, w41, w42]))] H := hP
  have hD : va_D A [(q74, .inl (g.2 0, 3976, .inl f55)), (q54, .inl (g.2 0, 497, .inl (cpF 497 f52 f55))), (q57, .inl (g.2 0, 8, .inl f55)), (q56, .inl (g.2 0, 8, .inl f55)), (q51, .inl (g.2 0, 497, .inl (upd (upd (upd (upd (upd (upd f52 393 x2) 394 6) 395 x3) 396 x4) 397 x5) 392 1))), (q1, .inr (12, [.ref q51, w7, .ref q54, w9, .ref q74, .int 0, .int 0, .ref q56, .ref q57, w15, w16, w17, w18, w19, w20, w21, w22, w23, w24, w25, w26, w27, w28, w29, w30, w31, w32, w33, w34, w35, w36, w37, w38, w39, w40, w41, w42]))] := hD
  refine lv_if_eq (tgt := 191) hx hb dX10_addClip_178 (by decide) (fun _ => ?_) (fun h => absurd (by decide) h)
  refine lv_aload_n hx hb dX10_addClip_191 rfl (lv_at hl 2 rfl) ?_
  refine g_v (wr := [(q57, .inl (g.2 0, 8, .inl f55)), (q56, .inl (g.2 0, 8, .inl f55)), (q51, .inl (g.2 0, 497, .inl (upd (upd (upd (upd (upd (upd f52 393 x2) 394 6) 395 x3) 396 x4) 397 x5) 392 1)))]) (rV (rest := []) hx hb hml hown hE hP hD 5 rfl rfl (c220_X10_keep l g q1 q74 q54 (.ref q51) w7 w9 (.int 0) (.ref q56) (.ref q57) w15 w16 w17 w18 w19 w20 w21 w22 w23 w24 w25 w26 w27 w28 w29 w30 w31 w32 w33 w34 w35 w36 w37 w38 w39 w40 w41 w42 (cpF 497 f52 f55) f55 H.size) (kV_X10_keep hE (e1478 hE) rfl rfl ⟨(Nat.le_of_ble_eq_true rfl), (Nat.le_of_ble_eq_true rfl)⟩) [0, 1, 5] rfl (by decide) rfl hl.1 rfl (lv_room (Nat.le_of_ble_eq_true rfl)) dX10_addClip_192 ⟨(Nat.le_of_ble_eq_true rfl), (Nat.le_of_ble_eq_true rfl)⟩) hP hD hS hA [0, 1, 5] [2, 3, 4] rfl rfl (by decide) (by decide) (fun u8 H locs hP hD hS => ?_)
  have hP : va_P g.1 vwCl [(q57, .inl (g.2 0, 8, .inl f55)), (q56, .inl (g.2 0, 8, .inl f55)), (q51, .inl (g.2 0, 497, .inl (upd (upd (upd (upd (upd (upd f52 393 x2) 394 6) 395 x3) 396 x4) 397 x5) 392 1))), (q74, .inl (g.2 0, 3976, .inl (cpF 497 (cpF 497 f52 f55) f55))), (q54, .inl (g.2 0, 497, .inl (cpF 497 f52 f55))), (q1, .inr (12, [.ref q51, w7, .ref q54, w9, .ref q74, .int 1, .int 0, .ref q56, .ref q57, w15, w16, w17, w18, w19, w20, w21, w22, w23, w24, w25, w26, w27, w28, w29, w30, w31, w32, w33, w34, w35, w36, w37, w38, w39, w40, w41, w42]))] H := hP
  have hD : va_D A [(q57, .inl (g.2 0, 8, .inl f55)), (q56, .inl (g.2 0, 8, .inl f55)), (q51, .inl (g.2 0, 497, .inl (upd (upd (upd (upd (upd (upd f52 393 x2) 394 6) 395 x3) 396 x4) 397 x5) 392 1))), (q74, .inl (g.2 0, 3976, .inl (cpF 497 (cpF 497 f52 f55) f55))), (q54, .inl (g.2 0, 497, .inl (cpF 497 f52 f55))), (q1, .inr (12, [.ref q51, w7, .ref q54, w9, .ref q74, .int 1, .int 0, .ref q56, .ref q57, w15, w16, w17, w18, w19, w20, w21, w22, w23, w24, w25, w26, w27, w28, w29, w30, w31, w32, w33, w34, w35, w36, w37, w38, w39, w40, w41, w42]))] := hD
  refine lv_aload_n hx hb dX10_addClip_195 rfl (lv_at hl 2 rfl) ?_
  refine gf_RX10_9 hx hb hown hE hP 5 rfl rfl dX10_addClip_196 ?_
  refine lv_sipush (v := 392) hx hb dX10_addClip_199 (by decide) ?_
  refine x_iald (v := 1) hx hb hE hP 2 rfl 392 (x_in (by decide)) (by decide) pk_us dX10_addClip_202 ?_
  refine lv_iconst (v := 1) hx hb dX10_addClip_203 (by decide) ?_
  refine x_isub (v := 0) hx hb dX10_addClip_204 (by decide) ?_
  exact x_zret hx hb hr rfl rfl hlocks hP hD hS hAe hsz (Nat.le_of_ble_eq_true rfl) (Nat.le_of_ble_eq_true rfl) (fun _ => 0) [5] (by decide) rfl dX10_addClip_205

set_option maxHeartbeats 4000000 in
set_option maxRecDepth 100000 in
theorem c1570_X6_clipLength (l : Launch) (g : gG) (q1 q9 q13 q17 : Nat) (x12 : Int32) (w3 w5 w6 w7 w8 w15 : Value) (f10 : Nat → Int32) (f18 : Nat → Int32) (hf11 : f10 2 = x12) (hf14 : f10 1 = 7) (hf19 : f18 36 = 0) (sz : Nat) : Met l yX6_clipLength [Cond.code yX6_clipLength cX6_clipLength 2 (some .int)] ({ frames := 1, cells := 0, slots := 0, locals := 23 } : Room) (va_Pc [.ref q1, .int 0] (PX g sz [(q17, .inl (g.2 0, 40, .inl f18)), (q13, .inr (5, [w15, .ref q17])), (q9, .inl (g.2 0, 60, .inl f10)), (q1, .inr (8, [.ref q13, w3, .ref q9, w5, w6, w7, w8]))])) (QI g [(q17, .inl (g.2 0, 40, .inl f18)), (q13, .inr (5, [w15, .ref q17])), (q9, .inl (g.2 0, 60, .inl f10)), (q1, .inr (8, [.ref q13, w3, .ref q9, w5, w6, w7, w8]))] sz 0 (fun _ => [(q9, .inl (g.2 0, 60, .inl f10)), (q1, .inr (8, [.ref q13, w3, .ref q9, w5, w6, w7, w8])), (q17, .inl (g.2 0, 40, .inl f18)), (q13, .inr (5, [w15, .ref q17]))])) 0 0 (va_A [(q17, .inl (g.2 0, 40, .inl f18)), (q13, .inr (5, [w15, .ref q17])), (q9, .inl (g.2 0, 60, .inl f10)), (q1, .inr (8, [.ref q13, w3, .ref q9, w5, w6, w7, w8]))] sz) := by
  refine ofN (by decide) (Nat.le_of_ble_eq_true rfl) rfl ?_
  intro p e s m args below meth c A ls hAe hsz hx hb hml hr hlocks hin hown hE hP hD hA hS hl
  have hown : s.vm.findClass RX6 = some m.cls := hown
  refine lv_aload_n hx hb dX6_clipLength_0 rfl (lv_at hl 0 rfl) ?_
  refine lv_iload_n hx hb dX6_clipLength_1 rfl (lv_at hl 1 rfl) ?_
  refine lv_iconst (v := 2) hx hb dX6_clipLength_2 (by decide) ?_
  refine g_i (wr := [(q17, .inl (g.2 0, 40, .inl f18)), (q13, .inr (5, [w15, .ref q17]))]) (rV (rest := []) hx hb hml hown hE hP hD 3 rfl rfl (c1503_X6_clipNumber l g q1 q9 x12 (.ref q13) w3 w5 w6 w7 w8 f10 (hf11) s.heap.size) (kV_X6_clipNumber hE (e711 hE) rfl rfl ⟨(Nat.le_of_ble_eq_true rfl), (Nat.le_of_ble_eq_true rfl)⟩) [2, 3] rfl (by decide) rfl hl.1 rfl (lv_room (Nat.le_of_ble_eq_true rfl)) dX6_clipLength_3 ⟨(Nat.le_of_ble_eq_true rfl), (Nat.le_of_ble_eq_true rfl)⟩) hP hD hS hA [2, 3] [0, 1] rfl rfl (by decide) (by decide) (fun u1 H locs hP hD hS => ?_)
  have hP : va_P g.1 vwCl [(q17, .inl (g.2 0, 40, .inl f18)), (q13, .inr (5, [w15, .ref q17])), (q9, .inl (g.2 0, 60, .inl f10)), (q1, .inr (8, [.ref q13, w3, .ref q9, w5, w6, w7, w8]))] H := hP
  have hD : va_D A [(q17, .inl (g.2 0, 40, .inl f18)), (q13, .inr (5, [w15, .ref q17])), (q9, .inl (g.2 0, 60, .inl f10)), (q1, .inr (8, [.ref q13, w3, .ref q9, w5, w6, w7, w8]))] := hD
  refine lv_aload_n hx hb dX6_clipLength_6 rfl (lv_at hl 0 rfl) ?_
  refine gf_RX6_12 hx hb hown hE hP 3 rfl rfl dX6_clipLength_7 ?_
  refine lv_aload_n hx hb dX6_clipLength_10 rfl (lv_at hl 0 rfl) ?_
  refine lv_iload_n hx hb dX6_clipLength_11 rfl (lv_at hl 1 rfl) ?_
  refine lv_iconst (v := 1) hx hb dX6_clipLength_12 (by decide) ?_
  refine g_i (wr := [(q17, .inl (g.2 0, 40, .inl f18)), (q13, .inr (5, [w15, .ref q17]))]) (rV (rest := [.ref q13, .int x12]) hx hb hml hown hE hP hD 3 rfl rfl (c1504_X6_clipNumber l g q1 q9 7 (.ref q13) w3 w5 w6 w7 w8 f10 (hf14) H.size) (kV_X6_clipNumber hE (e711 hE) rfl rfl ⟨(Nat.le_of_ble_eq_true rfl), (Nat.le_of_ble_eq_true rfl)⟩) [2, 3] rfl (by decide) rfl hl.1 rfl (lv_room (Nat.le_of_ble_eq_true rfl)) dX6_clipLength_13 ⟨(Nat.le_of_ble_eq_true rfl), (Nat.le_of_ble_eq_true rfl)⟩) hP hD hS hA [2, 3] [0, 1] rfl rfl (by decide) (by decide) (fun u2 H locs hP hD hS => ?_)
  have hP : va_P g.1 vwCl [(q17, .inl (g.2 0, 40, .inl f18)), (q13, .inr (5, [w15, .ref q17])), (q9, .inl (g.2 0, 60, .inl f10)), (q1, .inr (8, [.ref q13, w3, .ref q9, w5, w6, w7, w8]))] H := hP
  have hD : va_D A [(q17, .inl (g.2 0, 40, .inl f18)), (q13, .inr (5, [w15, .ref q17])), (q9, .inl (g.2 0, 60, .inl f10)), (q1, .inr (8, [.ref q13, w3, .ref q9, w5, w6, w7, w8]))] := hD
  refine lv_iconst (v := 1) hx hb dX6_clipLength_16 (by decide) ?_
  refine g_i (wr := [(q9, .inl (g.2 0, 60, .inl f10)), (q1, .inr (8, [.ref q13, w3, .ref q9, w5, w6, w7, w8]))]) (rV (rest := [.int x12]) hx hb hml hown hE hP hD 1 rfl rfl (c187_X3_figure l g q13 q17 w15 f18 (hf19) H.size) (kV_X3_figure hE (e712 hE) rfl rfl ⟨(Nat.le_of_ble_eq_true rfl), (Nat.le_of_ble_eq_true rfl)⟩) [0, 1] rfl (by decide) rfl hl.1 rfl (lv_room (Nat.le_of_ble_eq_true rfl)) dX6_clipLength_17 ⟨(Nat.le_of_ble_eq_true rfl), (Nat.le_of_ble_eq_true rfl)⟩) hP hD hS hA [0, 1] [2, 3] rfl rfl (by decide) (by decide) (fun u3 H locs hP hD hS => ?_)
  have hP : va_P g.1 vwCl [(q9, .inl (g.2 0, 60, .inl f10)), (q1, .inr (8, [.ref q13, w3, .ref q9, w5, w6, w7, w8])), (q17, .inl (g.2 0, 40, .inl f18)), (q13, .inr (5, [w15, .ref q17]))] H := hP
  have hD : va_D A [(q9, .inl (g.2 0, 60, .inl f10)), (q1, .inr (8, [.ref q13, w3, .ref q9, w5, w6, w7, w8])), (q17, .inl (g.2 0, 40, .inl f18)), (q13, .inr (5, [w15, .ref q17]))] := hD
  refine x_imul (v := 0) hx hb dX6_clipLength_20 (Int32.mul_zero) ?_
  exact x_zret hx hb hr rfl rfl hlocks hP hD hS hAe hsz (Nat.le_of_ble_eq_true rfl) (Nat.le_of_ble_eq_true rfl) (fun _ => 0) [0, 1, 2, 3] (by decide) rfl dX6_clipLength_21

set_option maxHeartbeats 4000000 in
set_option maxRecDepth 100000 in
theorem c1571_X6_clipNotes (l : Launch) (g : gG) (q1 q9 q13 q17 : Nat) (x12 : Int32) (w3 w5 w6 w7 w8 w15 : Value) (f10 : Nat → Int32) (f18 : Nat → Int32) (hf11 : f10 2 = x12) (hf14 : f10 1 = 7) (hf19 : f18 37 = 0) (sz : Nat) : Met l yX6_clipNotes [Cond.code yX6_clipNotes cX6_clipNotes 2 (some .int)] ({ frames := 1, cells := 0, slots := 0, locals := 23 } : Room) (va_Pc [.ref q1, .int 0] (PX g sz [(q17, .inl (g.2 0, 40, .inl f18)), (q13, .inr (5, [w15, .ref q17])), (q9, .inl (g.2 0, 60, .inl f10)), (q1, .inr (8, [.ref q13, w3, .ref q9, w5, w6, w7, w8]))])) (QI g [(q17, .inl (g.2 0, 40, .inl f18)), (q13, .inr (5, [w15, .ref q17])), (q9, .inl (g.2 0, 60, .inl f10)), (q1, .inr (8, [.ref q13, w3, .ref q9, w5, w6, w7, w8]))] sz 0 (fun _ => [(q9, .inl (g.2 0, 60, .inl f10)), (q1, .inr (8, [.ref q13, w3, .ref q9, w5, w6, w7, w8])), (q17, .inl (g.2 0, 40, .inl f18)), (q13, .inr (5, [w15, .ref q17]))])) 0 0 (va_A [(q17, .inl (g.2 0, 40, .inl f18)), (q13, .inr (5, [w15, .ref q17])), (q9, .inl (g.2 0, 60, .inl f10)), (q1, .inr (8, [.ref q13, w3, .ref q9, w5, w6, w7, w8]))] sz) := by
  refine ofN (by decide) (Nat.le_of_ble_eq_true rfl) rfl ?_
  intro p e s m args below meth c A ls hAe hsz hx hb hml hr hlocks hin hown hE hP hD hA hS hl
  have hown : s.vm.findClass RX6 = some m.cls := hown
  refine lv_aload_n hx hb dX6_clipNotes_0 rfl (lv_at hl 0 rfl) ?_
  refine lv_iload_n hx hb dX6_clipNotes_1 rfl (lv_at hl 1 rfl) ?_
  refine lv_iconst (v := 2) hx hb dX6_clipNotes_2 (by decide) ?_
  refine g_i (wr := [(q17, .inl (g.2 0, 40, .inl f18)), (q13, .inr (5, [w15, .ref q17]))]) (rV (rest := []) hx hb hml hown hE hP hD 3 rfl rfl (c1503_X6_clipNumber l g q1 q9 x12 (.ref q13) w3 w5 w6 w7 w8 f10 (hf11) s.heap.size) (kV_X6_clipNumber hE (e711 hE) rfl rfl ⟨(Nat.le_of_ble_eq_true rfl), (Nat.le_of_ble_eq_true rfl)⟩) [2, 3] rfl (by decide) rfl hl.1 rfl (lv_room (Nat.le_of_ble_eq_true rfl)) dX6_clipNotes_3 ⟨(Nat.le_of_ble_eq_true rfl), (Nat.le_of_ble_eq_true rfl)⟩) hP hD hS hA [2, 3] [0, 1] rfl rfl (by decide) (by decide) (fun u1 H locs hP hD hS => ?_)
  have hP : va_P g.1 vwCl [(q17, .inl (g.2 0, 40, .inl f18)), (q13, .inr (5, [w15, .ref q17])), (q9, .inl (g.2 0, 60, .inl f10)), (q1, .inr (8, [.ref q13, w3, .ref q9, w5, w6, w7, w8]))] H := hP
  have hD : va_D A [(q17, .inl (g.2 0, 40, .inl f18)), (q13, .inr (5, [w15, .ref q17])), (q9, .inl (g.2 0, 60, .inl f10)), (q1, .inr (8, [.ref q13, w3, .ref q9, w5, w6, w7, w8]))] := hD
  refine lv_aload_n hx hb dX6_clipNotes_6 rfl (lv_at hl 0 rfl) ?_
  refine gf_RX6_12 hx hb hown hE hP 3 rfl rfl dX6_clipNotes_7 ?_
  refine lv_aload_n hx hb dX6_clipNotes_10 rfl (lv_at hl 0 rfl) ?_
  refine lv_iload_n hx hb dX6_clipNotes_11 rfl (lv_at hl 1 rfl) ?_
  refine lv_iconst (v := 1) hx hb dX6_clipNotes_12 (by decide) ?_
  refine g_i (wr := [(q17, .inl (g.2 0, 40, .inl f18)), (q13, .inr (5, [w15, .ref q17]))]) (rV (rest := [.ref q13, .int x12]) hx hb hml hown hE hP hD 3 rfl rfl (c1504_X6_clipNumber l g q1 q9 7 (.ref q13) w3 w5 w6 w7 w8 f10 (hf14) H.size) (kV_X6_clipNumber hE (e711 hE) rfl rfl ⟨(Nat.le_of_ble_eq_true rfl), (Nat.le_of_ble_eq_true rfl)⟩) [2, 3] rfl (by decide) rfl hl.1 rfl (lv_room (Nat.le_of_ble_eq_true rfl)) dX6_clipNotes_13 ⟨(Nat.le_of_ble_eq_true rfl), (Nat.le_of_ble_eq_true rfl)⟩) hP hD hS hA [2, 3] [0, 1] rfl rfl (by decide) (by decide) (fun u2 H locs hP hD hS => ?_)
  have hP : va_P g.1 vwCl [(q17, .inl (g.2 0, 40, .inl f18)), (q13, .inr (5, [w15, .ref q17])), (q9, .inl (g.2 0, 60, .inl f10)), (q1, .inr (8, [.ref q13, w3, .ref q9, w5, w6, w7, w8]))] H := hP
  have hD : va_D A [(q17, .inl (g.2 0, 40, .inl f18)), (q13, .inr (5, [w15, .ref q17])), (q9, .inl (g.2 0, 60, .inl f10)), (q1, .inr (8, [.ref q13, w3, .ref q9, w5, w6, w7, w8]))] := hD
  refine lv_iconst (v := 2) hx hb dX6_clipNotes_16 (by decide) ?_
  refine g_i (wr := [(q9, .inl (g.2 0, 60, .inl f10)), (q1, .inr (8, [.ref q13, w3, .ref q9, w5, w6, w7, w8]))]) (rV (rest := [.int x12]) hx hb hml hown hE hP hD 1 rfl rfl (c1352_X3_figure l g q13 q17 w15 f18 (hf19) H.size) (kV_X3_figure hE (e712 hE) rfl rfl ⟨(Nat.le_of_ble_eq_true rfl), (Nat.le_of_ble_eq_true rfl)⟩) [0, 1] rfl (by decide) rfl hl.1 rfl (lv_room (Nat.le_of_ble_eq_true rfl)) dX6_clipNotes_17 ⟨(Nat.le_of_ble_eq_true rfl), (Nat.le_of_ble_eq_true rfl)⟩) hP hD hS hA [0, 1] [2, 3] rfl rfl (by decide) (by decide) (fun u3 H locs hP hD hS => ?_)
  have hP : va_P g.1 vwCl [(q9, .inl (g.2 0, 60, .inl f10)), (q1, .inr (8, [.ref q13, w3, .ref q9, w5, w6, w7, w8])), (q17, .inl (g.2 0, 40, .inl f18)), (q13, .inr (5, [w15, .ref q17]))] H := hP
  have hD : va_D A [(q9, .inl (g.2 0, 60, .inl f10)), (q1, .inr (8, [.ref q13, w3, .ref q9, w5, w6, w7, w8])), (q17, .inl (g.2 0, 40, .inl f18)), (q13, .inr (5, [w15, .ref q17]))] := hD
  refine x_imul (v := 0) hx hb dX6_clipNotes_20 (Int32.mul_zero) ?_
  exact x_zret hx hb hr rfl rfl hlocks hP hD hS hAe hsz (Nat.le_of_ble_eq_true rfl) (Nat.le_of_ble_eq_true rfl) (fun _ => 0) [0, 1, 2, 3] (by decide) rfl dX6_clipNotes_21

set_option maxHeartbeats 4000000 in
set_option maxRecDepth 100000 in
theorem c1572_X6_hasFittingClips (l : Launch) (g : gG) (q1 q9 q10 q17 : Nat) (x13 : Int32) (w3 w5 w7 w8 w15 : Value) (f11 : Nat → Int32) (f18 : Nat → Int32) (hf12 : f11 2 = x13) (hf14 : f11 1 = 7) (hf19 : f18 36 = 0) (hf20 : f18 37 = 0) (sz : Nat) : Met l yX6_hasFittingClips [Cond.code yX6_hasFittingClips cX6_hasFittingClips 3 (some .boolean)] ({ frames := 2, cells := 0, slots := 0, locals := 44 } : Room) (va_Pc [.ref q1] (PX g sz [(q17, .inl (g.2 0, 40, .inl f18)), (q9, .inr (5, [w15, .ref q17])), (q10, .inl (g.2 0, 60, .inl f11)), (q1, .inr (8, [.ref q9, w3, .ref q10, w5, .int 1, w7, w8]))])) (QI g [(q17, .inl (g.2 0, 40, .inl f18)), (q9, .inr (5, [w15, .ref q17])), (q10, .inl (g.2 0, 60, .inl f11)), (q1, .inr (8, [.ref q9, w3, .ref q10, w5, .int 1, w7, w8]))] sz 1 (fun _ => [(q10, .inl (g.2 0, 60, .inl f11)), (q1, .inr (8, [.ref q9, w3, .ref q10, w5, .int 1, w7, w8])), (q17, .inl (g.2 0, 40, .inl f18)), (q9, .inr (5, [w15, .ref q17]))])) 0 0 (va_A [(q17, .inl (g.2 0, 40, .inl f18)), (q9, .inr (5, [w15, .ref q17])), (q10, .inl (g.2 0, 60, .inl f11)), (q1, .inr (8, [.ref q9, w3, .ref q10, w5, .int 1, w7, w8]))] sz) := by
  refine ofN (by decide) (Nat.le_of_ble_eq_true rfl) rfl ?_
  intro p e s m args below meth c A ls hAe hsz hx hb hml hr hlocks hin hown hE hP hD hA hS hl
  have hown : s.vm.findClass RX6 = some m.cls := hown
  refine lv_iconst (v := 0) hx hb dX6_hasFittingClips_0 (by decide) ?_
  refine lv_istore_n (lv' := [(1, .int 0), (0, .ref q1)]) hx hb dX6_hasFittingClips_1 rfl hl (by decide) rfl (fun ls hl => ?_)
  refine lv_iconst (v := 0) hx hb dX6_hasFittingClips_2 (by decide) ?_
  refine lv_istore_n (lv' := [(2, .int 0), (1, .int 0), (0, .ref q1)]) hx hb dX6_hasFittingClips_3 rfl hl (by decide) rfl (fun ls hl => ?_)
  refine lv_iload_n hx hb dX6_hasFittingClips_4 rfl (lv_at hl 0 rfl) ?_
  refine lv_aload_n hx hb dX6_hasFittingClips_5 rfl (lv_at hl 2 rfl) ?_
  refine gf_RX6_37 hx hb hown hE hP 3 rfl rfl dX6_hasFittingClips_6 ?_
  refine lv_icmp_ge (tgt := 39) hx hb dX6_hasFittingClips_9 (by decide) (fun h => absurd h (by decide)) (fun _ => ?_)
  refine lv_aload_n hx hb dX6_hasFittingClips_12 rfl (lv_at hl 2 rfl) ?_
  refine lv_iload_n hx hb dX6_hasFittingClips_13 rfl (lv_at hl 0 rfl) ?_
  refine g_i (wr := []) (rV (rest := []) hx hb hml hown hE hP hD 3 rfl rfl (c1570_X6_clipLength l g q1 q10 q9 q17 x13 w3 w5 (.int 1) w7 w8 w15 f11 f18 (hf12) (hf14) (hf19) s.heap.size) (kV_X6_clipLength hE (e707 hE) rfl rfl ⟨(Nat.le_of_ble_eq_true rfl), (Nat.le_of_ble_eq_true rfl)⟩) [0, 1, 2, 3] rfl (by decide) rfl hl.1 rfl (lv_room (Nat.le_of_ble_eq_true rfl)) dX6_hasFittingClips_14 ⟨(Nat.le_of_ble_eq_true rfl), (Nat.le_of_ble_eq_true rfl)⟩) hP hD hS hA [0, 1, 2, 3] [] rfl rfl (by decide) (by decide) (fun u1 H locs hP hD hS => ?_)
  have hP : va_P g.1 vwCl [(q10, .inl (g.2 0, 60, .inl f11)), (q1, .inr (8, [.ref q9, w3, .ref q10, w5, .int 1, w7, w8])), (q17, .inl (g.2 0, 40, .inl f18)), (q9, .inr (5, [w15, .ref q17]))] H := hP
  have hD : va_D A [(q10, .inl (g.2 0, 60, .inl f11)), (q1, .inr (8, [.ref q9, w3, .ref q10, w5, .int 1, w7, w8])), (q17, .inl (g.2 0, 40, .inl f18)), (q9, .inr (5, [w15, .ref q17]))] := hD
  refine lv_sipush (v := 20000) hx hb dX6_hasFittingClips_17 (by decide) ?_
  refine lv_icmp_le (tgt := 25) hx hb dX6_hasFittingClips_20 (by decide) (fun _ => ?_) (fun h => absurd (by decide) h)
  refine lv_iload_n hx hb dX6_hasFittingClips_25 rfl (lv_at hl 1 rfl) ?_
  refine lv_aload_n hx hb dX6_hasFittingClips_26 rfl (lv_at hl 2 rfl) ?_
  refine lv_iload_n hx hb dX6_hasFittingClips_27 rfl (lv_at hl 0 rfl) ?_
  refine g_i (wr := []) (rV (rest := [.int 0]) hx hb hml hown hE hP hD 1 rfl rfl (c1571_X6_clipNotes l g q1 q10 q9 q17 x13 w3 w5 (.int 1) w7 w8 w15 f11 f18 (hf12) (hf14) (hf20) H.size) (kV_X6_clipNotes hE (e713 hE) rfl rfl ⟨(Nat.le_of_ble_eq_true rfl), (Nat.le_of_ble_eq_true rfl)⟩) [2, 3, 0, 1] rfl (by decide) rfl hl.1 rfl (lv_room (Nat.le_of_ble_eq_true rfl)) dX6_hasFittingClips_28 ⟨(Nat.le_of_ble_eq_true rfl), (Nat.le_of_ble_eq_true rfl)⟩) hP hD hS hA [2, 3, 0, 1] [] rfl rfl (by decide) (by decide) (fun u2 H locs hP hD hS => ?_)
  have hP : va_P g.1 vwCl [(q10, .inl (g.2 0, 60, .inl f11)), (q1, .inr (8, [.ref q9, w3, .ref q10, w5, .int 1, w7, w8])), (q17, .inl (g.2 0, 40, .inl f18)), (q9, .inr (5, [w15, .ref q17]))] H := hP
  have hD : va_D A [(q10, .inl (g.2 0, 60, .inl f11)), (q1, .inr (8, [.ref q9, w3, .ref q10, w5, .int 1, w7, w8])), (q17, .inl (g.2 0, 40, .inl f18)), (q9, .inr (5, [w15, .ref q17]))] := hD
  refine x_iadd (v := 0) hx hb dX6_hasFittingClips_31 (by decide) ?_
  refine lv_istore_n (lv' := [(1, .int 0), (2, .int 0), (0, .ref q1)]) hx hb dX6_hasFittingClips_32 rfl hl (by decide) rfl (fun ls hl => ?_)
  refine lv_iinc (v := 1) (lv' := [(2, .int 1), (1, .int 0), (0, .ref q1)]) hx hb dX6_hasFittingClips_33 hl (k := 1) rfl (by decide) (by decide) rfl (fun ls hl => ?_)
  refine lv_goto (tgt := 4) hx hb dX6_hasFittingClips_36 (by decide) ?_
  refine lv_iload_n hx hb dX6_hasFittingClips_4 rfl (lv_at hl 0 rfl) ?_
  refine lv_aload_n hx hb dX6_hasFittingClips_5 rfl (lv_at hl 2 rfl) ?_
  refine gf_RX6_37 hx hb hown hE hP 1 rfl rfl dX6_hasFittingClips_6 ?_
  refine lv_icmp_ge (tgt := 39) hx hb dX6_hasFittingClips_9 (by decide) (fun _ => ?_) (fun h => absurd (by decide) h)
  refine lv_iload_n hx hb dX6_hasFittingClips_39 rfl (lv_at hl 1 rfl) ?_
  refine lv_sipush (v := 300) hx hb dX6_hasFittingClips_40 (by decide) ?_
  refine lv_icmp_gt (tgt := 50) hx hb dX6_hasFittingClips_43 (by decide) (fun h => absurd h (by decide)) (fun _ => ?_)
  refine lv_iconst (v := 1) hx hb dX6_hasFittingClips_46 (by decide) ?_
  refine lv_goto (tgt := 51) hx hb dX6_hasFittingClips_47 (by decide) ?_
  exact x_zret hx hb hr rfl rfl hlocks hP hD hS hAe hsz (Nat.le_of_ble_eq_true rfl) (Nat.le_of_ble_eq_true rfl) (fun _ => 0) [0, 1, 2, 3] (by decide) rfl dX6_hasFittingClips_51

set_option maxHeartbeats 4000000 in
set_option maxRecDepth 100000 in
theorem c1573_X9_acceptIfFitting (l : Launch) (g : gG) (q1 q2 q10 q13 q14 q47 q63 : Nat) (x50 : Int32) (w4 w6 w8 w9 w53 w54 w55 w56 w57 w58 w59 w60 w61 w62 w64 : Value) (f15 : Nat → Int32) (f48 : Nat → Int32) (hf16 : f15 0 = 0) (hf17 : f15 2 = 0) (hf18 : f15 3 = 0) (hf19 : f15 5 = 0) (hf20 : f15 6 = 0) (hf21 : f15 7 = 0) (hf22 : f15 8 = 0) (hf23 : f15 10 = 0) (hf24 : f15 11 = 0) (hf25 : f15 12 = 0) (hf26 : f15 13 = 0) (hf27 : f15 15 = 0) (hf28 : f15 16 = 0) (hf29 : f15 17 = 0) (hf30 : f15 18 = 0) (hf31 : f15 20 = 0) (hf32 : f15 21 = 0) (hf33 : f15 22 = 0) (hf34 : f15 23 = 0) (hf35 : f15 25 = 0) (hf36 : f15 26 = 0) (hf37 : f15 27 = 0) (hf38 : f15 28 = 0) (hf39 : f15 30 = 0) (hf40 : f15 31 = 0) (hf41 : f15 32 = 0) (hf42 : f15 33 = 0) (hf43 : f15 35 = 0) (hf44 : f15 36 = 0) (hf45 : f15 37 = 0) (hf46 : f15 38 = 0) (hf49 : f48 2 = x50) (hf51 : f48 1 = 7) (sz : Nat) : Met l yX9_acceptIfFitting [Cond.code yX9_acceptIfFitting cX9_acceptIfFitting 2 none] ({ frames := 3, cells := 0, slots := 0, locals := 73 } : Room) (va_Pc [.ref q1, .ref q2] (PX g sz [(q63, .inr (10, [w64, .int 0, .int 0])), (q1, .inr (11, [.ref q63, w53, w54, w55, w56, w57, w58, w59, w60, w61, w62])), (q47, .inl (g.2 0, 60, .inl f48)), (q14, .inl (g.2 0, 40, .inl f15)), (q10, .inr (5, [.ref q13, .ref q14])), (q2, .inr (8, [.ref q10, w4, .ref q47, w6, .int 1, w8, w9]))])) (QV g [(q63, .inr (10, [w64, .int 0, .int 0])), (q1, .inr (11, [.ref q63, w53, w54, w55, w56, w57, w58, w59, w60, w61, w62])), (q47, .inl (g.2 0, 60, .inl f48)), (q14, .inl (g.2 0, 40, .inl f15)), (q10, .inr (5, [.ref q13, .ref q14])), (q2, .inr (8, [.ref q10, w4, .ref q47, w6, .int 1, w8, w9]))] sz (fun _ => [(q47, .inl (g.2 0, 60, .inl f48)), (q2, .inr (8, [.ref q10, w4, .ref q47, w6, .int 1, w8, w9])), (q14, .inl (g.2 0, 40, .inl (upd (upd (upd (upd (upd (upd (upd (upd (upd f15 1 0) 4 1) 9 1) 14 1) 19 1) 24 1) 29 1) 34 1) 39 1))), (q10, .inr (5, [.ref q13, .ref q14])), (q63, .inr (10, [w64, .int 1, .int 1])), (q1, .inr (11, [.ref q63, w53, w54, w55, w56, w57, w58, w59, .int 0, .int 0, w62]))])) 0 0 (va_A [(q63, .inr (10, [w64, .int 0, .int 0])), (q1, .inr (11, [.ref q63, w53, w54, w55, w56, w57, w58, w59, w60, w61, w62])), (q47, .inl (g.2 0, 60, .inl f48)), (q14, .inl (g.2 0, 40, .inl f15)), (q10, .inr (5, [.ref q13, .ref q14])), (q2, .inr (8, [.ref q10, w4, .ref q47, w6, .int 1, w8, w9]))] sz) := by
  refine ofN (by decide) (Nat.le_of_ble_eq_true rfl) rfl ?_
  intro p e s m args below meth c A ls hAe hsz hx hb hml hr hlocks hin hown hE hP hD hA hS hl
  have hown : s.vm.findClass RX9 = some m.cls := hown
  refine lv_aload_n hx hb dX9_acceptIfFitting_0 rfl (lv_at hl 1 rfl) ?_
  refine gf_RX9_108 hx hb hown hE hP 5 rfl rfl dX9_acceptIfFitting_1 ?_
  refine g_i (wr := [(q63, .inr (10, [w64, .int 0, .int 0])), (q1, .inr (11, [.ref q63, w53, w54, w55, w56, w57, w58, w59, w60, w61, w62])), (q47, .inl (g.2 0, 60, .inl f48)), (q2, .inr (8, [.ref q10, w4, .ref q47, w6, .int 1, w8, w9]))]) (rV (rest := []) hx hb hml hown hE hP hD 4 rfl rfl (c1502_X3_measure l g q10 q13 q14 f15 (hf16) (hf17) (hf18) (hf19) (hf20) (hf21) (hf22) (hf23) (hf24) (hf25) (hf26) (hf27) (hf28) (hf29) (hf30) (hf31) (hf32) (hf33) (hf34) (hf35) (hf36) (hf37) (hf38) (hf39) (hf40) (hf41) (hf42) (hf43) (hf44) (hf45) (hf46) s.heap.size) (kV_X3_measure hE (e694 hE) rfl rfl ⟨(Nat.le_of_ble_eq_true rfl), (Nat.le_of_ble_eq_true rfl)⟩) [3, 4] rfl (by decide) rfl hl.1 rfl (lv_room (Nat.le_of_ble_eq_true rfl)) dX9_acceptIfFitting_4 ⟨(Nat.le_of_ble_eq_true rfl), (Nat.le_of_ble_eq_true rfl)⟩) hP hD hS hA [3, 4] [0, 1, 2, 5] rfl rfl (by decide) (by decide) (fun u1 H locs hP hD hS => ?_)
  have hP : va_P g.1 vwCl [(q63, .inr (10, [w64, .int 0, .int 0])), (q1, .inr (11, [.ref q63, w53, w54, w55, w56, w57, w58, w59, w60, w61, w62])), (q47, .inl (g.2 0, 60, .inl f48)), (q2, .inr (8, [.ref q10, w4, .ref q47, w6, .int 1, w8, w9])), (q14, .inl (g.2 0, 40, .inl (upd (upd (upd (upd (upd (upd (upd (upd (upd f15 1 0) 4 1) 9 1) 14 1) 19 1) 24 1) 29 1) 34 1) 39 1))), (q10, .inr (5, [.ref q13, .ref q14]))] H := hP
  have hD : va_D A [(q63, .inr (10, [w64, .int 0, .int 0])), (q1, .inr (11, [.ref q63, w53, w54, w55, w56, w57, w58, w59, w60, w61, w62])), (q47, .inl (g.2 0, 60, .inl f48)), (q2, .inr (8, [.ref q10, w4, .ref q47, w6, .int 1, w8, w9])), (q14, .inl (g.2 0, 40, .inl (upd (upd (upd (upd (upd (upd (upd (upd (upd f15 1 0) 4 1) 9 1) 14 1) 19 1) 24 1) 29 1) 34 1) 39 1))), (q10, .inr (5, [.ref q13, .ref q14]))] := hD
  refine lv_if_eq (tgt := 17) hx hb dX9_acceptIfFitting_7 (by decide) (fun h => absurd h (by decide)) (fun _ => ?_)
  refine lv_aload_n hx hb dX9_acceptIfFitting_10 rfl (lv_at hl 1 rfl) ?_
  refine g_i (wr := [(q63, .inr (10, [w64, .int 0, .int 0])), (q1, .inr (11, [.ref q63, w53, w54, w55, w56, w57, w58, w59, w60, w61, w62]))]) (rV (rest := []) hx hb hml hown hE hP hD 3 rfl rfl (c1572_X6_hasFittingClips l g q2 q10 q47 q14 x50 w4 w6 w8 w9 (.ref q13) f48 (upd (upd (upd (upd (upd (upd (upd (upd (upd f15 1 0) 4 1) 9 1) 14 1) 19 1) 24 1) 29 1) 34 1) 39 1) (hf49) (hf51) (((pk_un (by decide)).trans ((pk_un (by decide)).trans ((pk_un (by decide)).trans ((pk_un (by decide)).trans ((pk_un (by decide)).trans ((pk_un (by decide)).trans ((pk_un (by decide)).trans ((pk_un (by decide)).trans ((pk_un (by decide)).trans hf44)))))))))) (((pk_un (by decide)).trans ((pk_un (by decide)).trans ((pk_un (by decide)).trans ((pk_un (by decide)).trans ((pk_un (by decide)).trans ((pk_un (by decide)).trans ((pk_un (by decide)).trans ((pk_un (by decide)).trans ((pk_un (by decide)).trans hf45)))))))))) H.size) (kV_X6_hasFittingClips hE (e703 hE) rfl rfl ⟨(Nat.le_of_ble_eq_true rfl), (Nat.le_of_ble_eq_true rfl)⟩) [4, 5, 2, 3] rfl (by decide) rfl hl.1 rfl (lv_room (Nat.le_of_ble_eq_true rfl)) dX9_acceptIfFitting_11 ⟨(Nat.le_of_ble_eq_true rfl), (Nat.le_of_ble_eq_true rfl)⟩) hP hD hS hA [4, 5, 2, 3] [0, 1] rfl rfl (by decide) (by decide) (fun u2 H locs hP hD hS => ?_)
  have hP : va_P g.1 vwCl [(q63, .inr (10, [w64, .int 0, .int 0])), (q1, .inr (11, [.ref q63, w53, w54, w55, w56, w57, w58, w59, w60, w61, w62])), (q47, .inl (g.2 0, 60, .inl f48)), (q2, .inr (8, [.ref q10, w4, .ref q47, w6, .int 1, w8, w9])), (q14, .inl (g.2 0, 40, .inl (upd (upd (upd (upd (upd (upd (upd (upd (upd f15 1 0) 4 1) 9 1) 14 1) 19 1) 24 1) 29 1) 34 1) 39 1))), (q10, .inr (5, [.ref q13, .ref q14]))] H := hP
  have hD : va_D A [(q63, .inr (10, [w64, .int 0, .int 0])), (q1, .inr (11, [.ref q63, w53, w54, w55, w56, w57, w58, w59, w60, w61, w62])), (q47, .inl (g.2 0, 60, .inl f48)), (q2, .inr (8, [.ref q10, w4, .ref q47, w6, .int 1, w8, w9])), (q14, .inl (g.2 0, 40, .inl (upd (upd (upd (upd (upd (upd (upd (upd (upd f15 1 0) 4 1) 9 1) 14 1) 19 1) 24 1) 29 1) 34 1) 39 1))), (q10, .inr (5, [.ref q13, .ref q14]))] := hD
  refine lv_if_ne (tgt := 28) hx hb dX9_acceptIfFitting_14 (by decide) (fun _ => ?_) (fun h => absurd h (by decide))
  refine lv_aload_n hx hb dX9_acceptIfFitting_28 rfl (lv_at hl 0 rfl) ?_
  refine g_v (wr := [(q47, .inl (g.2 0, 60, .inl f48)), (q2, .inr (8, [.ref q10, w4, .ref q47, w6, .int 1, w8, w9])), (q14, .inl (g.2 0, 40, .inl (upd (upd (upd (upd (upd (upd (upd (upd (upd f15 1 0) 4 1) 9 1) 14 1) 19 1) 24 1) 29 1) 34 1) 39 1))), (q10, .inr (5, [.ref q13, .ref q14]))]) (rV (rest := []) hx hb hml hown hE hP hD 1 rfl rfl (c191_X9_accept l g q1 q63 w53 w54 w55 w56 w57 w58 w59 w60 w61 w62 w64 H.size) (kV_X9_accept hE (e718 hE) rfl rfl ⟨(Nat.le_of_ble_eq_true rfl), (Nat.le_of_ble_eq_true rfl)⟩) [0, 1] rfl (by decide) rfl hl.1 rfl (lv_room (Nat.le_of_ble_eq_true rfl)) dX9_acceptIfFitting_29 ⟨(Nat.le_of_ble_eq_true rfl), (Nat.le_of_ble_eq_true rfl)⟩) hP hD hS hA [0, 1] [2, 3, 4, 5] rfl rfl (by decide) (by decide) (fun u3 H locs hP hD hS => ?_)
  have hP : va_P g.1 vwCl [(q47, .inl (g.2 0, 60, .inl f48)), (q2, .inr (8, [.ref q10, w4, .ref q47, w6, .int 1, w8, w9])), (q14, .inl (g.2 0, 40, .inl (upd (upd (upd (upd (upd (upd (upd (upd (upd f15 1 0) 4 1) 9 1) 14 1) 19 1) 24 1) 29 1) 34 1) 39 1))), (q10, .inr (5, [.ref q13, .ref q14])), (q63, .inr (10, [w64, .int 1, .int 1])), (q1, .inr (11, [.ref q63, w53, w54, w55, w56, w57, w58, w59, .int 0, .int 0, w62]))] H := hP
  have hD : va_D A [(q47, .inl (g.2 0, 60, .inl f48)), (q2, .inr (8, [.ref q10, w4, .ref q47, w6, .int 1, w8, w9])), (q14, .inl (g.2 0, 40, .inl (upd (upd (upd (upd (upd (upd (upd (upd (upd f15 1 0) 4 1) 9 1) 14 1) 19 1) 24 1) 29 1) 34 1) 39 1))), (q10, .inr (5, [.ref q13, .ref q14])), (q63, .inr (10, [w64, .int 1, .int 1])), (q1, .inr (11, [.ref q63, w53, w54, w55, w56, w57, w58, w59, .int 0, .int 0, w62]))] := hD
  exact x_vret hx hb hr hlocks hP hD hS hAe hsz (Nat.le_of_ble_eq_true rfl) (Nat.le_of_ble_eq_true rfl) (fun _ => 0) [0, 1, 2, 3, 4, 5] (by decide) rfl dX9_acceptIfFitting_32

set_option maxHeartbeats 4000000 in
set_option maxRecDepth 100000 in
theorem c1574_X9_addClip (l : Launch) (g : gG) (q1 q25 q29 q32 q34 q42 q43 q44 q45 q53 q54 q55 q56 q59 q60 q63 q64 q71 q72 q77 q78 : Nat) (x2 x3 x4 x5 : Int32) (w15 w16 w17 w18 w19 w20 w21 w22 w23 w24 w39 w40 w41 w75 w76 : Value) (f30 : Nat → Option Nat) (f65 : Nat → Int32) (f66 : Nat → Int32) (f79 : Nat → Int32) (f80 : Nat → Int32) (hf31 : f30 1 = some q32) (hf33 : f30 0 = some q34) (hf81 : f66 0 = 0) (hf82 : f66 2 = 0) (hf83 : f66 3 = 0) (hf84 : f66 5 = 0) (hf85 : f66 6 = 0) (hf86 : f66 7 = 0) (hf87 : f66 8 = 0) (hf88 : f66 10 = 0) (hf89 : f66 11 = 0) (hf90 : f66 12 = 0) (hf91 : f66 13 = 0) (hf92 : f66 15 = 0) (hf93 : f66 16 = 0) (hf94 : f66 17 = 0) (hf95 : f66 18 = 0) (hf96 : f66 20 = 0) (hf97 : f66 21 = 0) (hf98 : f66 22 = 0) (hf99 : f66 23 = 0) (hf100 : f66 25 = 0) (hf101 : f66 26 = 0) (hf102 : f66 27 = 0) (hf103 : f66 28 = 0) (hf104 : f66 30 = 0) (hf105 : f66 31 = 0) (hf106 : f66 32 = 0) (hf107 : f66 33 = 0) (hf108 : f66 35 = 0) (hf109 : f66 36 = 0) (hf110 : f66 37 = 0) (hf111 : f66 38 = 0) (h6 : (0 : Int32) ≤ x2) (h7 : x2 ≤ 9999) (h8 : (1 : Int32) ≤ x3) (h9 : x3 ≤ 9) (h10 : ((-50) : Int32) ≤ x4) (h11 : x4 ≤ 50) (h12 : (0 : Int32) ≤ x5) (h13 : x5 ≤ 3) (sz : Nat) : Met l yX9_addClip [Cond.code yX9_addClip cX9_addClip 7 (some .int)] ({ frames := 5, cells := 0, slots := 0, locals := 148 } : Room) (va_Pc [.ref q1, .int x2, .int 7, .int x3, .int x4, .int x5] (PX g sz [(q45, .inl (g.2 0, 20, .inl f80)), (q56, .inl (g.2 0, 20, .inl f80)), (q44, .inl (g.2 0, 60, .inl f65)), (q55, .inl (g.2 0, 60, .inl f65)), (q78, .inl (g.2 0, 10, .inl f79)), (q72, .inl (g.2 0, 10, .inl f79)), (q77, .inl (g.2 0, 10, .inl f65)), (q71, .inl (g.2 0, 10, .inl f65)), (q43, .inr (9, [.ref q77, .ref q78, w75, w76])), (q54, .inr (9, [.ref q71, .ref q72, .int 1, .int 0])), (q64, .inl (g.2 0, 40, .inl f66)), (q60, .inl (g.2 0, 40, .inl f66)), (q63, .inl (g.2 0, 384, .inl f65)), (q59, .inl (g.2 0, 384, .inl f65)), (q42, .inr (5, [.ref q63, .ref q64])), (q53, .inr (5, [.ref q59, .ref q60])), (q34, .inr (8, [.ref q53, .ref q54, .ref q55, .ref q56, .int 0, .int 4, .int 0])), (q32, .inr (8, [.ref q42, .ref q43, .ref q44, .ref q45, w39, w40, w41])), (q29, .inl (g.2 3, 10, .inr (.inr (.inr (.inr f30))))), (q25, .inr (10, [.ref q29, .int 0, .int 0])), (q1, .inr (11, [.ref q25, w15, w16, w17, w18, w19, w20, w21, w22, w23, w24]))])) (QI g [(q45, .inl (g.2 0, 20, .inl f80)), (q56, .inl (g.2 0, 20, .inl f80)), (q44, .inl (g.2 0, 60, .inl f65)), (q55, .inl (g.2 0, 60, .inl f65)), (q78, .inl (g.2 0, 10, .inl f79)), (q72, .inl (g.2 0, 10, .inl f79)), (q77, .inl (g.2 0, 10, .inl f65)), (q71, .inl (g.2 0, 10, .inl f65)), (q43, .inr (9, [.ref q77, .ref q78, w75, w76])), (q54, .inr (9, [.ref q71, .ref q72, .int 1, .int 0])), (q64, .inl (g.2 0, 40, .inl f66)), (q60, .inl (g.2 0, 40, .inl f66)), (q63, .inl (g.2 0, 384, .inl f65)), (q59, .inl (g.2 0, 384, .inl f65)), (q42, .inr (5, [.ref q63, .ref q64])), (q53, .inr (5, [.ref q59, .ref q60])), (q34, .inr (8, [.ref q53, .ref q54, .ref q55, .ref q56, .int 0, .int 4, .int 0])), (q32, .inr (8, [.ref q42, .ref q43, .ref q44, .ref q45, w39, w40, w41])), (q29, .inl (g.2 3, 10, .inr (.inr (.inr (.inr f30))))), (q25, .inr (10, [.ref q29, .int 0, .int 0])), (q1, .inr (11, [.ref q25, w15, w16, w17, w18, w19, w20, w21, w22, w23, w24]))] sz 0 (fun _ => [(q29, .inl (g.2 3, 10, .inr (.inr (.inr (.inr f30))))), (q34, .inr (8, [.ref q53, .ref q54, .ref q55, .ref q56, .int 0, .int 4, .int 0])), (q53, .inr (5, [.ref q59, .ref q60])), (q63, .inl (g.2 0, 384, .inl f65)), (q59, .inl (g.2 0, 384, .inl f65)), (q60, .inl (g.2 0, 40, .inl f66)), (q43, .inr (9, [.ref q77, .ref q78, .int 1, .int 0])), (q54, .inr (9, [.ref q71, .ref q72, .int 1, .int 0])), (q77, .inl (g.2 0, 10, .inl f65)), (q71, .inl (g.2 0, 10, .inl f65)), (q78, .inl (g.2 0, 10, .inl f79)), (q72, .inl (g.2 0, 10, .inl f79)), (q55, .inl (g.2 0, 60, .inl f65)), (q45, .inl (g.2 0, 20, .inl f80)), (q56, .inl (g.2 0, 20, .inl f80)), (q44, .inl (g.2 0, 60, .inl (upd (upd (upd (upd (upd f65 0 x2) 1 7) 2 x3) 3 x4) 4 x5))), (q64, .inl (g.2 0, 40, .inl (upd (upd (upd (upd (upd (upd (upd (upd (upd f66 1 0) 4 1) 9 1) 14 1) 19 1) 24 1) 29 1) 34 1) 39 1))), (q42, .inr (5, [.ref q63, .ref q64])), (q25, .inr (10, [.ref q29, .int 1, .int 1])), (q1, .inr (11, [.ref q25, w15, w16, w17, w18, w19, w20, w21, .int 0, .int 0, w24])), (q32, .inr (8, [.ref q42, .ref q43, .ref q44, .ref q45, .int 1, .int 4, .int 0]))])) 0 0 (va_A [(q45, .inl (g.2 0, 20, .inl f80)), (q56, .inl (g.2 0, 20, .inl f80)), (q44, .inl (g.2 0, 60, .inl f65)), (q55, .inl (g.2 0, 60, .inl f65)), (q78, .inl (g.2 0, 10, .inl f79)), (q72, .inl (g.2 0, 10, .inl f79)), (q77, .inl (g.2 0, 10, .inl f65)), (q71, .inl (g.2 0, 10, .inl f65)), (q43, .inr (9, [.ref q77, .ref q78, w75, w76])), (q54, .inr (9, [.ref q71, .ref q72, .int 1, .int 0])), (q64, .inl (g.2 0, 40, .inl f66)), (q60, .inl (g.2 0, 40, .inl f66)), (q63, .inl (g.2 0, 384, .inl f65)), (q59, .inl (g.2 0, 384, .inl f65)), (q42, .inr (5, [.ref q63, .ref q64])), (q53, .inr (5, [.ref q59, .ref q60])), (q34, .inr (8, [.ref q53, .ref q54, .ref q55, .ref q56, .int 0, .int 4, .int 0])), (q32, .inr (8, [.ref q42, .ref q43, .ref q44, .ref q45, w39, w40, w41])), (q29, .inl (g.2 3, 10, .inr (.inr (.inr (.inr f30))))), (q25, .inr (10, [.ref q29, .int 0, .int 0])), (q1, .inr (11, [.ref q25, w15, w16, w17, w18, w19, w20, w21, w22, w23, w24]))] sz) := by
  refine ofN (by decide) (Nat.le_of_ble_eq_true rfl) rfl ?_
  intro p e s m args below meth c A ls hAe hsz hx hb hml hr hlocks hin hown hE hP hD hA hS hl
  have hown : s.vm.findClass RX9 = some m.cls := hown
  refine lv_iload_n hx hb dX9_addClip_0 rfl (lv_at hl 1 rfl) ?_
  refine lv_iconst (v := 0) hx hb dX9_addClip_1 (by decide) ?_
  refine lv_sipush (v := 9999) hx hb dX9_addClip_2 (by decide) ?_
  refine g0_v (rS (rest := []) hx hb hml hown hE hP hD (c1477_X9_requireRange l g x2 h6 h7 s.heap.size) (kS_X9_requireRange hE (e636 hE) rfl rfl ⟨(Nat.le_of_ble_eq_true rfl), (Nat.le_of_ble_eq_true rfl)⟩) [] rfl (by decide) rfl hl.1 rfl (lv_room (Nat.le_of_ble_eq_true rfl)) dX9_addClip_5 ⟨(Nat.le_of_ble_eq_true rfl), (Nat.le_of_ble_eq_true rfl)⟩) hP hD hS hA (fun u9 H locs hP hS => ?_)
  refine lv_iload_n hx hb dX9_addClip_8 rfl (lv_at hl 2 rfl) ?_
  refine lv_iconst (v := 0) hx hb dX9_addClip_9 (by decide) ?_
  refine lv_bipush (v := 7) hx hb dX9_addClip_10 (by decide) ?_
  refine g0_v (rS (rest := []) hx hb hml hown hE hP hD (c1482_X9_requireRange l g 7 (by decide) (by decide) H.size) (kS_X9_requireRange hE (e636 hE) rfl rfl ⟨(Nat.le_of_ble_eq_true rfl), (Nat.le_of_ble_eq_true rfl)⟩) [] rfl (by decide) rfl hl.1 rfl (lv_room (Nat.le_of_ble_eq_true rfl)) dX9_addClip_12 ⟨(Nat.le_of_ble_eq_true rfl), (Nat.le_of_ble_eq_true rfl)⟩) hP hD hS hA (fun u9 H locs hP hS => ?_)
  refine lv_iload_n hx hb dX9_addClip_15 rfl (lv_at hl 3 rfl) ?_
  refine lv_iconst (v := 1) hx hb dX9_addClip_16 (by decide) ?_
  refine lv_bipush (v := 9) hx hb dX9_addClip_17 (by decide) ?_
  refine g0_v (rS (rest := []) hx hb hml hown hE hP hD (c117_X9_requireRange l g x3 h8 h9 H.size) (kS_X9_requireRange hE (e636 hE) rfl rfl ⟨(Nat.le_of_ble_eq_true rfl), (Nat.le_of_ble_eq_true rfl)⟩) [] rfl (by decide) rfl hl.1 rfl (lv_room (Nat.le_of_ble_eq_true rfl)) dX9_addClip_19 ⟨(Nat.le_of_ble_eq_true rfl), (Nat.le_of_ble_eq_true rfl)⟩) hP hD hS hA (fun u9 H locs hP hS => ?_)
  refine lv_iload hx hb dX9_addClip_22 (lv_at hl 4 rfl) ?_
  refine lv_bipush (v := (-50)) hx hb dX9_addClip_24 (by decide) ?_
  refine lv_bipush (v := 50) hx hb dX9_addClip_26 (by decide) ?_
  refine g0_v (rS (rest := []) hx hb hml hown hE hP hD (c1491_X9_requireRange l g x4 h10 h11 H.size) (kS_X9_requireRange hE (e636 hE) rfl rfl ⟨(Nat.le_of_ble_eq_true rfl), (Nat.le_of_ble_eq_true rfl)⟩) [] rfl (by decide) rfl hl.1 rfl (lv_room (Nat.le_of_ble_eq_true rfl)) dX9_addClip_28 ⟨(Nat.le_of_ble_eq_true rfl), (Nat.le_of_ble_eq_true rfl)⟩) hP hD hS hA (fun u9 H locs hP hS => ?_)
  refine lv_iload hx hb dX9_addClip_31 (lv_at hl 5 rfl) ?_
  refine lv_iconst (v := 0) hx hb dX9_addClip_33 (by decide) ?_
  refine lv_iconst (v := 3) hx hb dX9_addClip_34 (by decide) ?_
  refine g0_v (rS (rest := []) hx hb hml hown hE hP hD (c815_X9_requireRange l g x5 h12 h13 H.size) (kS_X9_requireRange hE (e636 hE) rfl rfl ⟨(Nat.le_of_ble_eq_true rfl), (Nat.le_of_ble_eq_true rfl)⟩) [] rfl (by decide) rfl hl.1 rfl (lv_room (Nat.le_of_ble_eq_true rfl)) dX9_addClip_35 ⟨(Nat.le_of_ble_eq_true rfl), (Nat.le_of_ble_eq_true rfl)⟩) hP hD hS hA (fun u9 H locs hP hS => ?_)
  refine lv_aload_n hx hb dX9_addClip_38 rfl (lv_at hl 0 rfl) ?_
  refine gf_RX9_12 hx hb hown hE hP 20 rfl rfl dX9_addClip_39 ?_
  refine g_r (wr := [(q1, .inr (11, [.ref q25, w15, w16, w17, w18, w19, w20, w21, w22, w23, w24]))]) (rV (rest := []) hx hb hml hown hE hP hD 19 rfl rfl (c127_X8_draft l g q25 q29 q32 q34 q42 q53 q59 q63 q60 q64 q43 q54 q71 q77 q72 q78 q55 q44 q56 q45 (.int 0) w39 w40 w41 w75 w76 f30 f65 f66 f79 f80 (hf31) (hf33) H.size) (kV_X8_draft hE (e659 hE) rfl rfl ⟨(Nat.le_of_ble_eq_true rfl), (Nat.le_of_ble_eq_true rfl)⟩) [0, 1, 2, 3, 4, 5, 6, 7, 8, 9, 10, 11, 12, 13, 14, 15, 16, 17, 18, 19] rfl (by decide) rfl hl.1 rfl (lv_room (Nat.le_of_ble_eq_true rfl)) dX9_addClip_42 ⟨(Nat.le_of_ble_eq_true rfl), (Nat.le_of_ble_eq_true rfl)⟩) hP hD hS hA [0, 1, 2, 3, 4, 5, 6, 7, 8, 9, 10, 11, 12, 13, 14, 15, 16, 17, 18, 19] [20] rfl rfl (by decide) (by decide) (fun u6 H locs hP hD hS => ?_)
  have hP : va_P g.1 vwCl [(q1, .inr (11, [.ref q25, w15, w16, w17, w18, w19, w20, w21, w22, w23, w24])), (q29, .inl (g.2 3, 10, .inr (.inr (.inr (.inr f30))))), (q25, .inr (10, [.ref q29, .int 0, .int 0])), (q34, .inr (8, [.ref q53, .ref q54, .ref q55, .ref q56, .int 0, .int 4, .int 0])), (q32, .inr (8, [.ref q42, .ref q43, .ref q44, .ref q45, .int 0, .int 4, .int 0])), (q42, .inr (5, [.ref q63, .ref q64])), (q53, .inr (5, [.ref q59, .ref q60])), (q63, .inl (g.2 0, 384, .inl f65)), (q59, .inl (g.2 0, 384, .inl f65)), (q64, .inl (g.2 0, 40, .inl f66)), (q60, .inl (g.2 0, 40, .inl f66)), (q43, .inr (9, [.ref q77, .ref q78, .int 1, .int 0])), (q54, .inr (9, [.ref q71, .ref q72, .int 1, .int 0])), (q77, .inl (g.2 0, 10, .inl f65)), (q71, .inl (g.2 0, 10, .inl f65)), (q78, .inl (g.2 0, 10, .inl f79)), (q72, .inl (g.2 0, 10, .inl f79)), (q44, .inl (g.2 0, 60, .inl f65)), (q55, .inl (g.2 0, 60, .inl f65)), (q45, .inl (g.2 0, 20, .inl f80)), (q56, .inl (g.2 0, 20, .inl f80))] H := hP
  have hD : va_D A [(q1, .inr (11, [.ref q25, w15, w16, w17, w18, w19, w20, w21, w22, w23, w24])), (q29, .inl (g.2 3, 10, .inr (.inr (.inr (.inr f30))))), (q25, .inr (10, [.ref q29, .int 0, .int 0])), (q34, .inr (8, [.ref q53, .ref q54, .ref q55, .ref q56, .int 0, .int 4, .int 0])), (q32, .inr (8, [.ref q42, .ref q43, .ref q44, .ref q45, .int 0, .int 4, .int 0])), (q42, .inr (5, [.ref q63, .ref q64])), (q53, .inr (5, [.ref q59, .ref q60])), (q63, .inl (g.2 0, 384, .inl f65)), (q59, .inl (g.2 0, 384, .inl f65)), (q64, .inl (g.2 0, 40, .inl f66)), (q60, .inl (g.2 0, 40, .inl f66)), (q43, .inr (9, [.ref q77, .ref q78, .int 1, .int 0])), (q54, .inr (9, [.ref q71, .ref q72, .int 1, .int 0])), (q77, .inl (g.2 0, 10, .inl f65)), (q71, .inl (g.2 0, 10, .inl f65)), (q78, .inl (g.2 0, 10, .inl f79)), (q72, .inl (g.2 0, 10, .inl f79)), (q44, .inl (g.2 0, 60, .inl f65)), (q55, .inl (g.2 0, 60, .inl f65)), (q45, .inl (g.2 0, 20, .inl f80)), (q56, .inl (g.2 0, 20, .inl f80))] := hD
  refine lv_astore (lv' := [(6, .ref q32), (0, .ref q1), (1, .int x2), (2, .int 7), (3, .int x3), (4, .int x4), (5, .int x5)]) hx hb dX9_addClip_45 hl (by decide) rfl (fun ls hl => ?_)
  refine lv_aload hx hb dX9_addClip_47 (lv_at hl 0 rfl) ?_
  refine g_i (wr := [(q1, .inr (11, [.ref q25, w15, w16, w17, w18, w19, w20, w21, w22, w23, w24])), (q29, .inl (g.2 3, 10, .inr (.inr (.inr (.inr f30))))), (q25, .inr (10, [.ref q29, .int 0, .int 0])), (q34, .inr (8, [.ref q53, .ref q54, .ref q55, .ref q56, .int 0, .int 4, .int 0])), (q42, .inr (5, [.ref q63, .ref q64])), (q53, .inr (5, [.ref q59, .ref q60])), (q63, .inl (g.2 0, 384, .inl f65)), (q59, .inl (g.2 0, 384, .inl f65)), (q64, .inl (g.2 0, 40, .inl f66)), (q60, .inl (g.2 0, 40, .inl f66)), (q43, .inr (9, [.ref q77, .ref q78, .int 1, .int 0])), (q54, .inr (9, [.ref q71, .ref q72, .int 1, .int 0])), (q77, .inl (g.2 0, 10, .inl f65)), (q71, .inl (g.2 0, 10, .inl f65)), (q78, .inl (g.2 0, 10, .inl f79)), (q72, .inl (g.2 0, 10, .inl f79)), (q44, .inl (g.2 0, 60, .inl f65)), (q55, .inl (g.2 0, 60, .inl f65)), (q45, .inl (g.2 0, 20, .inl f80)), (q56, .inl (g.2 0, 20, .inl f80))]) (rV (rest := []) hx hb hml hown hE hP hD 4 rfl rfl (c72_X6_clipCount l g q32 (.ref q42) (.ref q43) (.ref q44) (.ref q45) (.int 4) (.int 0) H.size) (kV_X6_clipCount hE (e297 hE) rfl rfl ⟨(Nat.le_of_ble_eq_true rfl), (Nat.le_of_ble_eq_true rfl)⟩) [4] rfl (by decide) rfl hl.1 rfl (lv_room (Nat.le_of_ble_eq_true rfl)) dX9_addClip_49 ⟨(Nat.le_of_ble_eq_true rfl), (Nat.le_of_ble_eq_true rfl)⟩) hP hD hS hA [4] [0, 1, 2, 3, 5, 6, 7, 8, 9, 10, 11, 12, 13, 14, 15, 16, 17, 18, 19, 20] rfl rfl (by decide) (by decide) (fun u7 H locs hP hD hS => ?_)
  have hP : va_P g.1 vwCl [(q1, .inr (11, [.ref q25, w15, w16, w17, w18, w19, w20, w21, w22, w23, w24])), (q29, .inl (g.2 3, 10, .inr (.inr (.inr (.inr f30))))), (q25, .inr (10, [.ref q29, .int 0, .int 0])), (q34, .inr (8, [.ref q53, .ref q54, .ref q55, .ref q56, .int 0, .int 4, .int 0])), (q42, .inr (5, [.ref q63, .ref q64])), (q53, .inr (5, [.ref q59, .ref q60])), (q63, .inl (g.2 0, 384, .inl f65)), (q59, .inl (g.2 0, 384, .inl f65)), (q64, .inl (g.2 0, 40, .inl f66)), (q60, .inl (g.2 0, 40, .inl f66)), (q43, .inr (9, [.ref q77, .ref q78, .int 1, .int 0])), (q54, .inr (9, [.ref q71, .ref q72, .int 1, .int 0])), (q77, .inl (g.2 0, 10, .inl f65)), (q71, .inl (g.2 0, 10, .inl f65)), (q78, .inl (g.2 0, 10, .inl f79)), (q72, .inl (g.2 0, 10, .inl f79)), (q44, .inl (g.2 0, 60, .inl f65)), (q55, .inl (g.2 0, 60, .inl f65)), (q45, .inl (g.2 0, 20, .inl f80)), (q56, .inl (g.2 0, 20, .inl f80)), (q32, .inr (8, [.ref q42, .ref q43, .ref q44, .ref q45, .int 0, .int 4, .int 0]))] H := hP
  have hD : va_D A [(q1, .inr (11, [.ref q25, w15, w16, w17, w18, w19, w20, w21, w22, w23, w24])), (q29, .inl (g.2 3, 10, .inr (.inr (.inr (.inr f30))))), (q25, .inr (10, [.ref q29, .int 0, .int 0])), (q34, .inr (8, [.ref q53, .ref q54, .ref q55, .ref q56, .int 0, .int 4, .int 0])), (q42, .inr (5, [.ref q63, .ref q64])), (q53, .inr (5, [.ref q59, .ref q60])), (q63, .inl (g.2 0, 384, .inl f65)), (q59, .inl (g.2 0, 384, .inl f65)), (q64, .inl (g.2 0, 40, .inl f66)), (q60, .inl (g.2 0, 40, .inl f66)), (q43, .inr (9, [.ref q77, .ref q78, .int 1, .int 0])), (q54, .inr (9, [.ref q71, .ref q72, .int 1, .int 0])), (q77, .inl (g.2 0, 10, .inl f65)), (q71, .inl (g.2 0, 10, .inl f65)), (q78, .inl (g.2 0, 10, .inl f79)), (q72, .inl (g.2 0, 10, .inl f79)), (q44, .inl (g.2 0, 60, .inl f65)), (q55, .inl (g.2 0, 60, .inl f65)), (q45, .inl (g.2 0, 20, .inl f80)), (q56, .inl (g.2 0, 20, .inl f80)), (q32, .inr (8, [.ref q42, .ref q43, .ref q44, .ref q45, .int 0, .int 4, .int 0]))] := hD
  refine lv_bipush (v := 12) hx hb dX9_addClip_52 (by decide) ?_
  refine lv_icmp_lt (tgt := 67) hx hb dX9_addClip_54 (by decide) (fun _ => ?_) (fun h => absurd (by decide) h)
  refine lv_aload hx hb dX9_addClip_67 (lv_at hl 0 rfl) ?_
  refine lv_iload_n hx hb dX9_addClip_69 rfl (lv_at hl 2 rfl) ?_
  refine lv_iload_n hx hb dX9_addClip_70 rfl (lv_at hl 3 rfl) ?_
  refine lv_iload_n hx hb dX9_addClip_71 rfl (lv_at hl 4 rfl) ?_
  refine lv_iload hx hb dX9_addClip_72 (lv_at hl 5 rfl) ?_
  refine lv_iload hx hb dX9_addClip_74 (lv_at hl 6 rfl) ?_
  refine g_v (wr := [(q1, .inr (11, [.ref q25, w15, w16, w17, w18, w19, w20, w21, w22, w23, w24])), (q29, .inl (g.2 3, 10, .inr (.inr (.inr (.inr f30))))), (q25, .inr (10, [.ref q29, .int 0, .int 0])), (q34, .inr (8, [.ref q53, .ref q54, .ref q55, .ref q56, .int 0, .int 4, .int 0])), (q42, .inr (5, [.ref q63, .ref q64])), (q53, .inr (5, [.ref q59, .ref q60])), (q63, .inl (g.2 0, 384, .inl f65)), (q59, .inl (g.2 0, 384, .inl f65)), (q64, .inl (g.2 0, 40, .inl f66)), (q60, .inl (g.2 0, 40, .inl f66)), (q43, .inr (9, [.ref q77, .ref q78, .int 1, .int 0])), (q54, .inr (9, [.ref q71, .ref q72, .int 1, .int 0])), (q77, .inl (g.2 0, 10, .inl f65)), (q71, .inl (g.2 0, 10, .inl f65)), (q78, .inl (g.2 0, 10, .inl f79)), (q72, .inl (g.2 0, 10, .inl f79)), (q55, .inl (g.2 0, 60, .inl f65)), (q45, .inl (g.2 0, 20, .inl f80)), (q56, .inl (g.2 0, 20, .inl f80))]) (rV (rest := []) hx hb hml hown hE hP hD 20 rfl rfl (c1501_X6_putClip l g q32 q44 x2 7 x3 x4 x5 (.ref q42) (.ref q43) (.ref q45) (.int 4) (.int 0) f65 H.size) (kV_X6_putClip hE (e808 hE) rfl rfl ⟨(Nat.le_of_ble_eq_true rfl), (Nat.le_of_ble_eq_true rfl)⟩) [16, 20] rfl (by decide) rfl hl.1 rfl (lv_room (Nat.le_of_ble_eq_true rfl)) dX9_addClip_76 ⟨(Nat.le_of_ble_eq_true rfl), (Nat.le_of_ble_eq_true rfl)⟩) hP hD hS hA [16, 20] [0, 1, 2, 3, 4, 5, 6, 7, 8, 9, 10, 11, 12, 13, 14, 15, 17, 18, 19] rfl rfl (by decide) (by decide) (fun u8 H locs hP hD hS => ?_)
  have hP : va_P g.1 vwCl [(q1, .inr (11, [.ref q25, w15, w16, w17, w18, w19, w20, w21, w22, w23, w24])), (q29, .inl (g.2 3, 10, .inr (.inr (.inr (.inr f30))))), (q25, .inr (10, [.ref q29, .int 0, .int 0])), (q34, .inr (8, [.ref q53, .ref q54, .ref q55, .ref q56, .int 0, .int 4, .int 0])), (q42, .inr (5, [.ref q63, .ref q64])), (q53, .inr (5, [.ref q59, .ref q60])), (q63, .inl (g.2 0, 384, .inl f65)), (q59, .inl (g.2 0, 384, .inl f65)), (q64, .inl (g.2 0, 40, .inl f66)), (q60, .inl (g.2 0, 40, .inl f66)), (q43, .inr (9, [.ref q77, .ref q78, .int 1, .int 0])), (q54, .inr (9, [.ref q71, .ref q72, .int 1, .int 0])), (q77, .inl (g.2 0, 10, .inl f65)), (q71, .inl (g.2 0, 10, .inl f65)), (q78, .inl (g.2 0, 10, .inl f79)), (q72, .inl (g.2 0, 10, .inl f79)), (q55, .inl (g.2 0, 60, .inl f65)), (q45, .inl (g.2 0, 20, .inl f80)), (q56, .inl (g.2 0, 20, .inl f80)), (q32, .inr (8, [.ref q42, .ref q43, .ref q44, .ref q45, .int 1, .int 4, .int 0])), (q44, .inl (g.2 0, 60, .inl (upd (upd (upd (upd (upd f65 0 x2) 1 7) 2 x3) 3 x4) 4 x5)))] H := hP
  have hD : va_D A [(q1, .inr (11, [.ref q25, w15, w16, w17, w18, w19, w20, w21, w22, w23, w24])), (q29, .inl (g.2 3, 10, .inr (.inr (.inr (.inr f30))))), (q25, .inr (10, [.ref q29, .int 0, .int 0])), (q34, .inr (8, [.ref q53, .ref q54, .ref q55, .ref q56, .int 0, .int 4, .int 0])), (q42, .inr (5, [.ref q63, .ref q64])), (q53, .inr (5, [.ref q59, .ref q60])), (q63, .inl (g.2 0, 384, .inl f65)), (q59, .inl (g.2 0, 384, .inl f65)), (q64, .inl (g.2 0, 40, .inl f66)), (q60, .inl (g.2 0, 40, .inl f66)), (q43, .inr (9, [.ref q77, .ref q78, .int 1, .int 0])), (q54, .inr (9, [.ref q71, .ref q72, .int 1, .int 0])), (q77, .inl (g.2 0, 10, .inl f65)), (q71, .inl (g.2 0, 10, .inl f65)), (q78, .inl (g.2 0, 10, .inl f79)), (q72, .inl (g.2 0, 10, .inl f79)), (q55, .inl (g.2 0, 60, .inl f65)), (q45, .inl (g.2 0, 20, .inl f80)), (q56, .inl (g.2 0, 20, .inl f80)), (q32, .inr (8, [.ref q42, .ref q43, .ref q44, .ref q45, .int 1, .int 4, .int 0])), (q44, .inl (g.2 0, 60, .inl (upd (upd (upd (upd (upd f65 0 x2) 1 7) 2 x3) 3 x4) 4 x5)))] := hD
  refine lv_aload_n hx hb dX9_addClip_79 rfl (lv_at hl 1 rfl) ?_
  refine lv_aload hx hb dX9_addClip_80 (lv_at hl 0 rfl) ?_
  refine g_v (wr := [(q29, .inl (g.2 3, 10, .inr (.inr (.inr (.inr f30))))), (q34, .inr (8, [.ref q53, .ref q54, .ref q55, .ref q56, .int 0, .int 4, .int 0])), (q53, .inr (5, [.ref q59, .ref q60])), (q63, .inl (g.2 0, 384, .inl f65)), (q59, .inl (g.2 0, 384, .inl f65)), (q60, .inl (g.2 0, 40, .inl f66)), (q43, .inr (9, [.ref q77, .ref q78, .int 1, .int 0])), (q54, .inr (9, [.ref q71, .ref q72, .int 1, .int 0])), (q77, .inl (g.2 0, 10, .inl f65)), (q71, .inl (g.2 0, 10, .inl f65)), (q78, .inl (g.2 0, 10, .inl f79)), (q72, .inl (g.2 0, 10, .inl f79)), (q55, .inl (g.2 0, 60, .inl f65)), (q45, .inl (g.2 0, 20, .inl f80)), (q56, .inl (g.2 0, 20, .inl f80))]) (rV (rest := []) hx hb hml hown hE hP hD 0 rfl rfl (c1573_X9_acceptIfFitting l g q1 q32 q42 q63 q64 q44 q25 x3 (.ref q43) (.ref q45) (.int 4) (.int 0) w15 w16 w17 w18 w19 w20 w21 w22 w23 w24 (.ref q29) f66 (upd (upd (upd (upd (upd f65 0 x2) 1 7) 2 x3) 3 x4) 4 x5) (hf81) (hf82) (hf83) (hf84) (hf85) (hf86) (hf87) (hf88) (hf89) (hf90) (hf91) (hf92) (hf93) (hf94) (hf95) (hf96) (hf97) (hf98) (hf99) (hf100) (hf101) (hf102) (hf103) (hf104) (hf105) (hf106) (hf107) (hf108) (hf109) (hf110) (hf111) (((pk_un (by decide)).trans ((pk_un (by decide)).trans pk_us))) (((pk_un (by decide)).trans ((pk_un (by decide)).trans ((pk_un (by decide)).trans pk_us)))) H.size) (kV_X9_acceptIfFitting hE (e690 hE) rfl rfl ⟨(Nat.le_of_ble_eq_true rfl), (Nat.le_of_ble_eq_true rfl)⟩) [2, 0, 20, 8, 4, 19] rfl (by decide) rfl hl.1 rfl (lv_room (Nat.le_of_ble_eq_true rfl)) dX9_addClip_82 ⟨(Nat.le_of_ble_eq_true rfl), (Nat.le_of_ble_eq_true rfl)⟩) hP hD hS hA [2, 0, 20, 8, 4, 19] [1, 3, 5, 6, 7, 9, 10, 11, 12, 13, 14, 15, 16, 17, 18] rfl rfl (by decide) (by decide) (fun u9 H locs hP hD hS => ?_)
  have hP : va_P g.1 vwCl [(q29, .inl (g.2 3, 10, .inr (.inr (.inr (.inr f30))))), (q34, .inr (8, [.ref q53, .ref q54, .ref q55, .ref q56, .int 0, .int 4, .int 0])), (q53, .inr (5, [.ref q59, .ref q60])), (q63, .inl (g.2 0, 384, .inl f65)), (q59, .inl (g.2 0, 384, .inl f65)), (q60, .inl (g.2 0, 40, .inl f66)), (q43, .inr (9, [.ref q77, .ref q78, .int 1, .int 0])), (q54, .inr (9, [.ref q71, .ref q72, .int 1, .int 0])), (q77, .inl (g.2 0, 10, .inl f65)), (q71, .inl (g.2 0, 10, .inl f65)), (q78, .inl (g.2 0, 10, .inl f79)), (q72, .inl (g.2 0, 10, .inl f79)), (q55, .inl (g.2 0, 60, .inl f65)), (q45, .inl (g.2 0, 20, .inl f80)), (q56, .inl (g.2 0, 20, .inl f80)), (q44, .inl (g.2 0, 60, .inl (upd (upd (upd (upd (upd f65 0 x2) 1 7) 2 x3) 3 x4) 4 x5))), (q32, .inr (8, [.ref q42, .ref q43, .ref q44, .ref q45, .int 1, .int 4, .int 0])), (q64, .inl (g.2 0, 40, .inl (upd (upd (upd (upd (upd (upd (upd (upd (upd f66 1 0) 4 1) 9 1) 14 1) 19 1) 24 1) 29 1) 34 1) 39 1))), (q42, .inr (5, [.ref q63, .ref q64])), (q25, .inr (10, [.ref q29, .int 1, .int 1])), (q1, .inr (11, [.ref q25, w15, w16, w17, w18, w19, w20, w21, .int 0, .int 0, w24]))] H := hP
  have hD : va_D A [(q29, .inl (g.2 3, 10, .inr (.inr (.inr (.inr f30))))), (q34, .inr (8, [.ref q53, .ref q54, .ref q55, .ref q56, .int 0, .int 4, .int 0])), (q53, .inr (5, [.ref q59, .ref q60])), (q63, .inl (g.2 0, 384, .inl f65)), (q59, .inl (g.2 0, 384, .inl f65)), (q60, .inl (g.2 0, 40, .inl f66)), (q43, .inr (9, [.ref q77, .ref q78, .int 1, .int 0])), (q54, .inr (9, [.ref q71, .ref q72, .int 1, .int 0])), (q77, .inl (g.2 0, 10, .inl f65)), (q71, .inl (g.2 0, 10, .inl f65)), (q78, .inl (g.2 0, 10, .inl f79)), (q72, .inl (g.2 0, 10, .inl f79)), (q55, .inl (g.2 0, 60, .inl f65)), (q45, .inl (g.2 0, 20, .inl f80)), (q56, .inl (g.2 0, 20, .inl f80)), (q44, .inl (g.2 0, 60, .inl (upd (upd (upd (upd (upd f65 0 x2) 1 7) 2 x3) 3 x4) 4 x5))), (q32, .inr (8, [.ref q42, .ref q43, .ref q44, .ref q45, .int 1, .int 4, .int 0])), (q64, .inl (g.2 0, 40, .inl (upd (upd (upd (upd (upd (upd (upd (upd (upd f66 1 0) 4 1) 9 1) 14 1) 19 1) 24 1) 29 1) 34 1) 39 1))), (q42, .inr (5, [.ref q63, .ref q64])), (q25, .inr (10, [.ref q29, .int 1, .int 1])), (q1, .inr (11, [.ref q25, w15, w16, w17, w18, w19, w20, w21, .int 0, .int 0, w24]))] := hD
  refine lv_aload hx hb dX9_addClip_85 (lv_at hl 0 rfl) ?_
  refine g_i (wr := [(q29, .inl (g.2 3, 10, .inr (.inr (.inr (.inr f30))))), (q34, .inr (8, [.ref q53, .ref q54, .ref q55, .ref q56, .int 0, .int 4, .int 0])), (q53, .inr (5, [.ref q59, .ref q60])), (q63, .inl (g.2 0, 384, .inl f65)), (q59, .inl (g.2 0, 384, .inl f65)), (q60, .inl (g.2 0, 40, .inl f66)), (q43, .inr (9, [.ref q77, .ref q78, .int 1, .int 0])), (q54, .inr (9, [.ref q71, .ref q72, .int 1, .int 0])), (q77, .inl (g.2 0, 10, .inl f65)), (q71, .inl (g.2 0, 10, .inl f65)), (q78, .inl (g.2 0, 10, .inl f79)), (q72, .inl (g.2 0, 10, .inl f79)), (q55, .inl (g.2 0, 60, .inl f65)), (q45, .inl (g.2 0, 20, .inl f80)), (q56, .inl (g.2 0, 20, .inl f80)), (q44, .inl (g.2 0, 60, .inl (upd (upd (upd (upd (upd f65 0 x2) 1 7) 2 x3) 3 x4) 4 x5))), (q64, .inl (g.2 0, 40, .inl (upd (upd (upd (upd (upd (upd (upd (upd (upd f66 1 0) 4 1) 9 1) 14 1) 19 1) 24 1) 29 1) 34 1) 39 1))), (q42, .inr (5, [.ref q63, .ref q64])), (q25, .inr (10, [.ref q29, .int 1, .int 1])), (q1, .inr (11, [.ref q25, w15, w16, w17, w18, w19, w20, w21, .int 0, .int 0, w24]))]) (rV (rest := []) hx hb hml hown hE hP hD 16 rfl rfl (c1509_X6_clipCount l g q32 (.ref q42) (.ref q43) (.ref q44) (.ref q45) (.int 4) (.int 0) H.size) (kV_X6_clipCount hE (e297 hE) rfl rfl ⟨(Nat.le_of_ble_eq_true rfl), (Nat.le_of_ble_eq_true rfl)⟩) [16] rfl (by decide) rfl hl.1 rfl (lv_room (Nat.le_of_ble_eq_true rfl)) dX9_addClip_87 ⟨(Nat.le_of_ble_eq_true rfl), (Nat.le_of_ble_eq_true rfl)⟩) hP hD hS hA [16] [0, 1, 2, 3, 4, 5, 6, 7, 8, 9, 10, 11, 12, 13, 14, 15, 17, 18, 19, 20] rfl rfl (by decide) (by decide) (fun u10 H locs hP hD hS => ?_)
  have hP : va_P g.1 vwCl [(q29, .inl (g.2 3, 10, .inr (.inr (.inr (.inr f30))))), (q34, .inr (8, [.ref q53, .ref q54, .ref q55, .ref q56, .int 0, .int 4, .int 0])), (q53, .inr (5, [.ref q59, .ref q60])), (q63, .inl (g.2 0, 384, .inl f65)), (q59, .inl (g.2 0, 384, .inl f65)), (q60, .inl (g.2 0, 40, .inl f66)), (q43, .inr (9, [.ref q77, .ref q78, .int 1, .int 0])), (q54, .inr (9, [.ref q71, .ref q72, .int 1, .int 0])), (q77, .inl (g.2 0, 10, .inl f65)), (q71, .inl (g.2 0, 10, .inl f65)), (q78, .inl (g.2 0, 10, .inl f79)), (q72, .inl (g.2 0, 10, .inl f79)), (q55, .inl (g.2 0, 60, .inl f65)), (q45, .inl (g.2 0, 20, .inl f80)), (q56, .inl (g.2 0, 20, .inl f80)), (q44, .inl (g.2 0, 60, .inl (upd (upd (upd (upd (upd f65 0 x2) 1 7) 2 x3) 3 x4) 4 x5))), (q64, .inl (g.2 0, 40, .inl (upd (upd (upd (upd (upd (upd (upd (upd (upd f66 1 0) 4 1) 9 1) 14 1) 19 1) 24 1) 29 1) 34 1) 39 1))), (q42, .inr (5, [.ref q63, .ref q64])), (q25, .inr (10, [.ref q29, .int 1, .int 1])), (q1, .inr (11, [.ref q25, w15, w16, w17, w18, w19, w20, w21, .int 0, .int 0, w24])), (q32, .inr (8, [.ref q42, .ref q43, .ref q44, .ref q45, .int 1, .int 4, .int 0]))] H := hP
  have hD : va_D A [(q29, .inl (g.2 3, 10, .inr (.inr (.inr (.inr f30))))), (q34, .inr (8, [.ref q53, .ref q54, .ref q55, .ref q56, .int 0, .int 4, .int 0])), (q53, .inr (5, [.ref q59, .ref q60])), (q63, .inl (g.2 0, 384, .inl f65)), (q59, .inl (g.2 0, 384, .inl f65)), (q60, .inl (g.2 0, 40, .inl f66)), (q43, .inr (9, [.ref q77, .ref q78, .int 1, .int 0])), (q54, .inr (9, [.ref q71, .ref q72, .int 1, .int 0])), (q77, .inl (g.2 0, 10, .inl f65)), (q71, .inl (g.2 0, 10, .inl f65)), (q78, .inl (g.2 0, 10, .inl f79)), (q72, .inl (g.2 0, 10, .inl f79)), (q55, .inl (g.2 0, 60, .inl f65)), (q45, .inl (g.2 0, 20, .inl f80)), (q56, .inl (g.2 0, 20, .inl f80)), (q44, .inl (g.2 0, 60, .inl (upd (upd (upd (upd (upd f65 0 x2) 1 7) 2 x3) 3 x4) 4 x5))), (q64, .inl (g.2 0, 40, .inl (upd (upd (upd (upd (upd (upd (upd (upd (upd f66 1 0) 4 1) 9 1) 14 1) 19 1) 24 1) 29 1) 34 1) 39 1))), (q42, .inr (5, [.ref q63, .ref q64])), (q25, .inr (10, [.ref q29, .int 1, .int 1])), (q1, .inr (11, [.ref q25, w15, w16, w17, w18, w19, w20, w21, .int 0, .int 0, w24])), (q32, .inr (8, [.ref q42, .ref q43, .ref q44, .ref q45, .int 1, .int 4, .int 0]))] := hD
  refine lv_iconst (v := 1) hx hb dX9_addClip_90 (by decide) ?_
  refine x_isub (v := 0) hx hb dX9_addClip_91 (by decide) ?_
  exact x_zret hx hb hr rfl rfl hlocks hP hD hS hAe hsz (Nat.le_of_ble_eq_true rfl) (Nat.le_of_ble_eq_true rfl) (fun _ => 0) [0, 1, 2, 3, 4, 5, 6, 7, 8, 9, 10, 11, 12, 13, 14, 15, 16, 17, 18, 19, 20] (by decide) rfl dX9_addClip_92

set_option maxHeartbeats 4000000 in
set_option maxRecDepth 100000 in
theorem c1575_L_addClip (l : Launch) (g : gG) (hlx : l.stackTraces = false) (q1 q6 q26 q30 q33 q35 q43 q44 q45 q46 q54 q55 q56 q57 q60 q61 q64 q65 q72 q73 q78 q79 : Nat) (x2 x3 x4 x5 : Int32) (w16 w17 w18 w19 w20 w21 w22 w23 w24 w25 w40 w41 w42 w76 w77 : Value) (f31 : Nat → Option Nat) (f66 : Nat → Int32) (f67 : Nat → Int32) (f80 : Nat → Int32) (f81 : Nat → Int32) (f113 : Nat → Int64) (hf32 : f31 1 = some q33) (hf34 : f31 0 = some q35) (hf82 : f67 0 = 0) (hf83 : f67 2 = 0) (hf84 : f67 3 = 0) (hf85 : f67 5 = 0) (hf86 : f67 6 = 0) (hf87 : f67 7 = 0) (hf88 : f67 8 = 0) (hf89 : f67 10 = 0) (hf90 : f67 11 = 0) (hf91 : f67 12 = 0) (hf92 : f67 13 = 0) (hf93 : f67 15 = 0) (hf94 : f67 16 = 0) (hf95 : f67 17 = 0) (hf96 : f67 18 = 0) (hf97 : f67 20 = 0) (hf98 : f67 21 = 0) (hf99 : f67 22 = 0) (hf100 : f67 23 = 0) (hf101 : f67 25 = 0) (hf102 : f67 26 = 0) (hf103 : f67 27 = 0) (hf104 : f67 28 = 0) (hf105 : f67 30 = 0) (hf106 : f67 31 = 0) (hf107 : f67 32 = 0) (hf108 : f67 33 = 0) (hf109 : f67 35 = 0) (hf110 : f67 36 = 0) (hf111 : f67 37 = 0) (hf112 : f67 38 = 0) (h7 : (0 : Int32) ≤ x2) (h8 : x2 ≤ 9999) (h9 : (1 : Int32) ≤ x3) (h10 : x3 ≤ 9) (h11 : ((-50) : Int32) ≤ x4) (h12 : x4 ≤ 50) (h13 : (0 : Int32) ≤ x5) (h14 : x5 ≤ 3) (sz : Nat) : Met l yL_addClip [Cond.codeWith yL_addClip cL_addClip 8 (some .int) [(0, 16, 19, 15), (0, 16, 23, 17)]] ({ frames := 6, cells := 0, slots := 0, locals := 174 } : Room) (va_Pc [.ref q1, .int x2, .int 7, .int x3, .int x4, .int x5, .ref q6] (PZ g sz [(q6, .inl (g.2 1, 1, .inr (.inl f113))), (q46, .inl (g.2 0, 20, .inl f81)), (q57, .inl (g.2 0, 20, .inl f81)), (q45, .inl (g.2 0, 60, .inl f66)), (q56, .inl (g.2 0, 60, .inl f66)), (q79, .inl (g.2 0, 10, .inl f80)), (q73, .inl (g.2 0, 10, .inl f80)), (q78, .inl (g.2 0, 10, .inl f66)), (q72, .inl (g.2 0, 10, .inl f66)), (q44, .inr (9, [.ref q78, .ref q79, w76, w77])), (q55, .inr (9, [.ref q72, .ref q73, .int 1, .int 0])), (q65, .inl (g.2 0, 40, .inl f67)), (q61, .inl (g.2 0, 40, .inl f67)), (q64, .inl (g.2 0, 384, .inl f66)), (q60, .inl (g.2 0, 384, .inl f66)), (q43, .inr (5, [.ref q64, .ref q65])), (q54, .inr (5, [.ref q60, .ref q61])), (q35, .inr (8, [.ref q54, .ref q55, .ref q56, .ref q57, .int 0, .int 4, .int 0])), (q33, .inr (8, [.ref q43, .ref q44, .ref q45, .ref q46, w40, w41, w42])), (q30, .inl (g.2 3, 10, .inr (.inr (.inr (.inr f31))))), (q26, .inr (10, [.ref q30, .int 0, .int 0])), (q1, .inr (11, [.ref q26, w16, w17, w18, w19, w20, w21, w22, w23, w24, w25]))])) (QI g [(q6, .inl (g.2 1, 1, .inr (.inl f113))), (q46, .inl (g.2 0, 20, .inl f81)), (q57, .inl (g.2 0, 20, .inl f81)), (q45, .inl (g.2 0, 60, .inl f66)), (q56, .inl (g.2 0, 60, .inl f66)), (q79, .inl (g.2 0, 10, .inl f80)), (q73, .inl (g.2 0, 10, .inl f80)), (q78, .inl (g.2 0, 10, .inl f66)), (q72, .inl (g.2 0, 10, .inl f66)), (q44, .inr (9, [.ref q78, .ref q79, w76, w77])), (q55, .inr (9, [.ref q72, .ref q73, .int 1, .int 0])), (q65, .inl (g.2 0, 40, .inl f67)), (q61, .inl (g.2 0, 40, .inl f67)), (q64, .inl (g.2 0, 384, .inl f66)), (q60, .inl (g.2 0, 384, .inl f66)), (q43, .inr (5, [.ref q64, .ref q65])), (q54, .inr (5, [.ref q60, .ref q61])), (q35, .inr (8, [.ref q54, .ref q55, .ref q56, .ref q57, .int 0, .int 4, .int 0])), (q33, .inr (8, [.ref q43, .ref q44, .ref q45, .ref q46, w40, w41, w42])), (q30, .inl (g.2 3, 10, .inr (.inr (.inr (.inr f31))))), (q26, .inr (10, [.ref q30, .int 0, .int 0])), (q1, .inr (11, [.ref q26, w16, w17, w18, w19, w20, w21, w22, w23, w24, w25]))] sz 0 (fun _ => [(q6, .inl (g.2 1, 1, .inr (.inl (vp_updL f113 0 0))))])) 0 0 (va_A [(q6, .inl (g.2 1, 1, .inr (.inl f113))), (q46, .inl (g.2 0, 20, .inl f81)), (q57, .inl (g.2 0, 20, .inl f81)), (q45, .inl (g.2 0, 60, .inl f66)), (q56, .inl (g.2 0, 60, .inl f66)), (q79, .inl (g.2 0, 10, .inl f80)), (q73, .inl (g.2 0, 10, .inl f80)), (q78, .inl (g.2 0, 10, .inl f66)), (q72, .inl (g.2 0, 10, .inl f66)), (q44, .inr (9, [.ref q78, .ref q79, w76, w77])), (q55, .inr (9, [.ref q72, .ref q73, .int 1, .int 0])), (q65, .inl (g.2 0, 40, .inl f67)), (q61, .inl (g.2 0, 40, .inl f67)), (q64, .inl (g.2 0, 384, .inl f66)), (q60, .inl (g.2 0, 384, .inl f66)), (q43, .inr (5, [.ref q64, .ref q65])), (q54, .inr (5, [.ref q60, .ref q61])), (q35, .inr (8, [.ref q54, .ref q55, .ref q56, .ref q57, .int 0, .int 4, .int 0])), (q33, .inr (8, [.ref q43, .ref q44, .ref q45, .ref q46, w40, w41, w42])), (q30, .inl (g.2 3, 10, .inr (.inr (.inr (.inr f31))))), (q26, .inr (10, [.ref q30, .int 0, .int 0])), (q1, .inr (11, [.ref q26, w16, w17, w18, w19, w20, w21, w22, w23, w24, w25]))] sz) := by
  refine ofH (by decide) (Nat.le_of_ble_eq_true rfl) rfl ?_
  intro p e s m args below meth c A ls hAe hsz hx hb hml hr hlocks hin hown hE hP hD hA hS hl htb hz
  have hown : s.vm.findClass RL = some m.cls := hown
  refine lv_aload hx hb dL_addClip_0 (lv_at hl 6 rfl) ?_
  refine lv_iconst (v := 0) hx hb dL_addClip_2 (by decide) ?_
  refine lv_aload_n hx hb dL_addClip_3 rfl (lv_at hl 0 rfl) ?_
  refine lv_iload_n hx hb dL_addClip_4 rfl (lv_at hl 1 rfl) ?_
  refine lv_iload_n hx hb dL_addClip_5 rfl (lv_at hl 2 rfl) ?_
  refine lv_iload_n hx hb dL_addClip_6 rfl (lv_at hl 3 rfl) ?_
  refine lv_iload hx hb dL_addClip_7 (lv_at hl 4 rfl) ?_
  refine lv_iload hx hb dL_addClip_9 (lv_at hl 5 rfl) ?_
  refine g_i (wr := [(q6, .inl (g.2 1, 1, .inr (.inl f113)))]) (rV (rest := [.int 0, .ref q6]) hx hb hml hown hE hP hD 21 rfl rfl (c1574_X9_addClip l g q1 q26 q30 q33 q35 q43 q44 q45 q46 q54 q55 q56 q57 q60 q61 q64 q65 q72 q73 q78 q79 x2 x3 x4 x5 w16 w17 w18 w19 w20 w21 w22 w23 w24 w25 w40 w41 w42 w76 w77 f31 f66 f67 f80 f81 (hf32) (hf34) (hf82) (hf83) (hf84) (hf85) (hf86) (hf87) (hf88) (hf89) (hf90) (hf91) (hf92) (hf93) (hf94) (hf95) (hf96) (hf97) (hf98) (hf99) (hf100) (hf101) (hf102) (hf103) (hf104) (hf105) (hf106) (hf107) (hf108) (hf109) (hf110) (hf111) (hf112) h7 h8 h9 h10 h11 h12 h13 h14 s.heap.size) (kV_X9_addClip hE (e803 hE) rfl rfl ⟨(Nat.le_of_ble_eq_true rfl), (Nat.le_of_ble_eq_true rfl)⟩) [1, 2, 3, 4, 5, 6, 7, 8, 9, 10, 11, 12, 13, 14, 15, 16, 17, 18, 19, 20, 21] rfl (by decide) rfl hl.1 rfl (lv_room (Nat.le_of_ble_eq_true rfl)) dL_addClip_11 ⟨(Nat.le_of_ble_eq_true rfl), (Nat.le_of_ble_eq_true rfl)⟩) hP hD hS hA [1, 2, 3, 4, 5, 6, 7, 8, 9, 10, 11, 12, 13, 14, 15, 16, 17, 18, 19, 20, 21] [0] rfl rfl (by decide) (by decide) (fun u1 H locs hP hD hS => ?_)
  have hP : va_P g.1 vwCl [(q6, .inl (g.2 1, 1, .inr (.inl f113))), (q30, .inl (g.2 3, 10, .inr (.inr (.inr (.inr f31))))), (q35, .inr (8, [.ref q54, .ref q55, .ref q56, .ref q57, .int 0, .int 4, .int 0])), (q54, .inr (5, [.ref q60, .ref q61])), (q64, .inl (g.2 0, 384, .inl f66)), (q60, .inl (g.2 0, 384, .inl f66)), (q61, .inl (g.2 0, 40, .inl f67)), (q44, .inr (9, [.ref q78, .ref q79, .int 1, .int 0])), (q55, .inr (9, [.ref q72, .ref q73, .int 1, .int 0])), (q78, .inl (g.2 0, 10, .inl f66)), (q72, .inl (g.2 0, 10, .inl f66)), (q79, .inl (g.2 0, 10, .inl f80)), (q73, .inl (g.2 0, 10, .inl f80)), (q56, .inl (g.2 0, 60, .inl f66)), (q46, .inl (g.2 0, 20, .inl f81)), (q57, .inl (g.2 0, 20, .inl f81)), (q45, .inl (g.2 0, 60, .inl (upd (upd (upd (upd (upd f66 0 x2) 1 7) 2 x3) 3 x4) 4 x5))), (q65, .inl (g.2 0, 40, .inl (upd (upd (upd (upd (upd (upd (upd (upd (upd f67 1 0) 4 1) 9 1) 14 1) 19 1) 24 1) 29 1) 34 1) 39 1))), (q43, .inr (5, [.ref q64, .ref q65])), (q26, .inr (10, [.ref q30, .int 1, .int 1])), (q1, .inr (11, [.ref q26, w16, w17, w18, w19, w20, w21, w22, .int 0, .int 0, w25])), (q33, .inr (8, [.ref q43, .ref q44, .ref q45, .ref q46, .int 1, .int 4, .int 0]))] H := hP
  have hD : va_D A [(q6, .inl (g.2 1, 1, .inr (.inl f113))), (q30, .inl (g.2 3, 10, .inr (.inr (.inr (.inr f31))))), (q35, .inr (8, [.ref q54, .ref q55, .ref q56, .ref q57, .int 0, .int 4, .int 0])), (q54, .inr (5, [.ref q60, .ref q61])), (q64, .inl (g.2 0, 384, .inl f66)), (q60, .inl (g.2 0, 384, .inl f66)), (q61, .inl (g.2 0, 40, .inl f67)), (q44, .inr (9, [.ref q78, .ref q79, .int 1, .int 0])), (q55, .inr (9, [.ref q72, .ref q73, .int 1, .int 0])), (q78, .inl (g.2 0, 10, .inl f66)), (q72, .inl (g.2 0, 10, .inl f66)), (q79, .inl (g.2 0, 10, .inl f80)), (q73, .inl (g.2 0, 10, .inl f80)), (q56, .inl (g.2 0, 60, .inl f66)), (q46, .inl (g.2 0, 20, .inl f81)), (q57, .inl (g.2 0, 20, .inl f81)), (q45, .inl (g.2 0, 60, .inl (upd (upd (upd (upd (upd f66 0 x2) 1 7) 2 x3) 3 x4) 4 x5))), (q65, .inl (g.2 0, 40, .inl (upd (upd (upd (upd (upd (upd (upd (upd (upd f67 1 0) 4 1) 9 1) 14 1) 19 1) 24 1) 29 1) 34 1) 39 1))), (q43, .inr (5, [.ref q64, .ref q65])), (q26, .inr (10, [.ref q30, .int 1, .int 1])), (q1, .inr (11, [.ref q26, w16, w17, w18, w19, w20, w21, w22, .int 0, .int 0, w25])), (q33, .inr (8, [.ref q43, .ref q44, .ref q45, .ref q46, .int 1, .int 4, .int 0]))] := hD
  refine lv_i2l (v := 0) hx hb dL_addClip_14 (by decide) ?_
  refine x_last (ws' := [(q6, .inl (g.2 1, 1, .inr (.inl (vp_updL f113 0 0)))), (q30, .inl (g.2 3, 10, .inr (.inr (.inr (.inr f31))))), (q35, .inr (8, [.ref q54, .ref q55, .ref q56, .ref q57, .int 0, .int 4, .int 0])), (q54, .inr (5, [.ref q60, .ref q61])), (q64, .inl (g.2 0, 384, .inl f66)), (q60, .inl (g.2 0, 384, .inl f66)), (q61, .inl (g.2 0, 40, .inl f67)), (q44, .inr (9, [.ref q78, .ref q79, .int 1, .int 0])), (q55, .inr (9, [.ref q72, .ref q73, .int 1, .int 0])), (q78, .inl (g.2 0, 10, .inl f66)), (q72, .inl (g.2 0, 10, .inl f66)), (q79, .inl (g.2 0, 10, .inl f80)), (q73, .inl (g.2 0, 10, .inl f80)), (q56, .inl (g.2 0, 60, .inl f66)), (q46, .inl (g.2 0, 20, .inl f81)), (q57, .inl (g.2 0, 20, .inl f81)), (q45, .inl (g.2 0, 60, .inl (upd (upd (upd (upd (upd f66 0 x2) 1 7) 2 x3) 3 x4) 4 x5))), (q65, .inl (g.2 0, 40, .inl (upd (upd (upd (upd (upd (upd (upd (upd (upd f67 1 0) 4 1) 9 1) 14 1) 19 1) 24 1) 29 1) 34 1) 39 1))), (q43, .inr (5, [.ref q64, .ref q65])), (q26, .inr (10, [.ref q30, .int 1, .int 1])), (q1, .inr (11, [.ref q26, w16, w17, w18, w19, w20, w21, w22, .int 0, .int 0, w25])), (q33, .inr (8, [.ref q43, .ref q44, .ref q45, .ref q46, .int 1, .int 4, .int 0]))]) hx hb hE hP hD hS 0 rfl 0 (x_in (by decide)) (by decide) dL_addClip_15 rfl (fun H locs hP hD hS => ?_)
  refine lv_goto (tgt := 27) hx hb dL_addClip_16 (by decide) ?_
  refine lv_iconst (v := 0) hx hb dL_addClip_27 (by decide) ?_
  exact x_zret hx hb hr rfl rfl hlocks hP hD hS hAe hsz (Nat.le_of_ble_eq_true rfl) (Nat.le_of_ble_eq_true rfl) (fun _ => 0) [0] (by decide) rfl dL_addClip_28

set_option maxHeartbeats 4000000 in
set_option maxRecDepth 100000 in
theorem c1576_X10_ofClip (l : Launch) (g : gG) (q1 q39 : Nat) (w3 w4 w5 w6 w7 w8 w9 w10 w11 w12 w13 w14 w15 w16 w17 w18 w19 w20 w21 w22 w23 w24 w25 w26 w27 w28 w29 w30 w31 w32 w33 w34 w35 w36 w37 w38 : Value) (f40 : Nat → Int32) (hf41 : f40 394 = 7) (sz : Nat) : Met l yX10_ofClip [Cond.code yX10_ofClip cX10_ofClip 3 (some .int)] ({ frames := 0, cells := 0, slots := 0, locals := 0 } : Room) (va_Pc [.ref q1, .int 0, .int 1] (PX g sz [(q39, .inl (g.2 0, 497, .inl f40)), (q1, .inr (12, [.ref q39, w3, w4, w5, w6, w7, w8, w9, w10, w11, w12, w13, w14, w15, w16, w17, w18, w19, w20, w21, w22, w23, w24, w25, w26, w27, w28, w29, w30, w31, w32, w33, w34, w35, w36, w37, w38]))])) (QI g [(q39, .inl (g.2 0, 497, .inl f40)), (q1, .inr (12, [.ref q39, w3, w4, w5, w6, w7, w8, w9, w10, w11, w12, w13, w14, w15, w16, w17, w18, w19, w20, w21, w22, w23, w24, w25, w26, w27, w28, w29, w30, w31, w32, w33, w34, w35, w36, w37, w38]))] sz 7 (fun _ => [(q39, .inl (g.2 0, 497, .inl f40)), (q1, .inr (12, [.ref q39, w3, w4, w5, w6, w7, w8, w9, w10, w11, w12, w13, w14, w15, w16, w17, w18, w19, w20, w21, w22, w23, w24, w25, w26, w27, w28, w29, w30, w31, w32, w33, w34, w35, w36, w37, w38]))])) 0 0 (va_A [(q39, .inl (g.2 0, 497, .inl f40)), (q1, .inr (12, [.ref q39, w3, w4, w5, w6, w7, w8, w9, w10, w11, w12, w13, w14, w15, w16, w17, w18, w19, w20, w21, w22, w23, w24, w25, w26, w27, w28, w29, w30, w31, w32, w33, w34, w35, w36, w37, w38]))] sz) := by
  refine ofN (by decide) (Nat.le_of_ble_eq_true rfl) rfl ?_
  intro p e s m args below meth c A ls hAe hsz hx hb hml hr hlocks hin hown hE hP hD hA hS hl
  have hown : s.vm.findClass RX10 = some m.cls := hown
  refine lv_aload_n hx hb dX10_ofClip_0 rfl (lv_at hl 0 rfl) ?_
  refine gf_RX10_9 hx hb hown hE hP 1 rfl rfl dX10_ofClip_1 ?_
  refine lv_sipush (v := 393) hx hb dX10_ofClip_4 (by decide) ?_
  refine lv_iconst (v := 5) hx hb dX10_ofClip_7 (by decide) ?_
  refine lv_iload_n hx hb dX10_ofClip_8 rfl (lv_at hl 1 rfl) ?_
  refine x_imul (v := 0) hx hb dX10_ofClip_9 (by decide) ?_
  refine x_iadd (v := 393) hx hb dX10_ofClip_10 (by decide) ?_
  refine lv_iload_n hx hb dX10_ofClip_11 rfl (lv_at hl 2 rfl) ?_
  refine x_iadd (v := 394) hx hb dX10_ofClip_12 (by decide) ?_
  refine x_iald (v := 7) hx hb hE hP 0 rfl 394 (x_in (by decide)) (by decide) hf41 dX10_ofClip_13 ?_
  exact x_zret hx hb hr rfl rfl hlocks hP hD hS hAe hsz (Nat.le_of_ble_eq_true rfl) (Nat.le_of_ble_eq_true rfl) (fun _ => 0) [0, 1] (by decide) rfl dX10_ofClip_14

set_option maxHeartbeats 4000000 in
set_option maxRecDepth 100000 in
theorem c1577_X10_isTooGreat (l : Launch) (g : gG) (q1 q39 q40 q41 : Nat) (x62 : Int32) (w3 w4 w5 w6 w7 w8 w11 w12 w13 w14 w15 w16 w17 w18 w19 w20 w21 w22 w23 w24 w25 w26 w27 w28 w29 w30 w31 w32 w33 w34 w35 w36 w37 w38 : Value) (f42 : Nat → Int32) (f51 : Nat → Int32) (hf43 : f42 0 = 0) (hf44 : f42 49 = 0) (hf45 : f42 98 = 0) (hf46 : f42 147 = 0) (hf47 : f42 196 = 0) (hf48 : f42 245 = 0) (hf49 : f42 294 = 0) (hf50 : f42 343 = 0) (hf52 : f51 0 = 0) (hf53 : f51 1 = 0) (hf54 : f51 2 = 0) (hf55 : f51 3 = 0) (hf56 : f51 4 = 0) (hf57 : f51 5 = 0) (hf58 : f51 6 = 0) (hf59 : f51 7 = 0) (hf60 : f42 392 = 1) (hf61 : f42 395 = x62) (hf63 : f42 394 = 7) (sz : Nat) : Met l yX10_isTooGreat [Cond.code yX10_isTooGreat cX10_isTooGreat 4 (some .boolean)] ({ frames := 3, cells := 0, slots := 0, locals := 66 } : Room) (va_Pc [.ref q1] (PX g sz [(q41, .inl (g.2 0, 8, .inl f51)), (q40, .inl (g.2 0, 8, .inl f51)), (q39, .inl (g.2 0, 497, .inl f42)), (q1, .inr (12, [.ref q39, w3, w4, w5, w6, w7, w8, .ref q40, .ref q41, w11, w12, w13, w14, w15, w16, w17, w18, w19, w20, w21, w22, w23, w24, w25, w26, w27, w28, w29, w30, w31, w32, w33, w34, w35, w36, w37, w38]))])) (QI g [(q41, .inl (g.2 0, 8, .inl f51)), (q40, .inl (g.2 0, 8, .inl f51)), (q39, .inl (g.2 0, 497, .inl f42)), (q1, .inr (12, [.ref q39, w3, w4, w5, w6, w7, w8, .ref q40, .ref q41, w11, w12, w13, w14, w15, w16, w17, w18, w19, w20, w21, w22, w23, w24, w25, w26, w27, w28, w29, w30, w31, w32, w33, w34, w35, w36, w37, w38]))] sz 0 (fun _ => [(q41, .inl (g.2 0, 8, .inl f51)), (q40, .inl (g.2 0, 8, .inl f51)), (q39, .inl (g.2 0, 497, .inl f42)), (q1, .inr (12, [.ref q39, w3, w4, w5, w6, w7, w8, .ref q40, .ref q41, w11, w12, w13, w14, w15, w16, w17, w18, w19, w20, w21, w22, w23, w24, w25, w26, w27, w28, w29, w30, w31, w32, w33, w34, w35, w36, w37, w38]))])) 0 0 (va_A [(q41, .inl (g.2 0, 8, .inl f51)), (q40, .inl (g.2 0, 8, .inl f51)), (q39, .inl (g.2 0, 497, .inl f42)), (q1, .inr (12, [.ref q39, w3, w4, w5, w6, w7, w8, .ref q40, .ref q41, w11, w12, w13, w14, w15, w16, w17, w18, w19, w20, w21, w22, w23, w24, w25, w26, w27, w28, w29, w30, w31, w32, w33, w34, w35, w36, w37, w38]))] sz) := by
  refine ofN (by decide) (Nat.le_of_ble_eq_true rfl) rfl ?_
  intro p e s m args below meth c A ls hAe hsz hx hb hml hr hlocks hin hown hE hP hD hA hS hl
  have hown : s.vm.findClass RX10 = some m.cls := hown
  refine lv_aload_n hx hb dX10_isTooGreat_0 rfl (lv_at hl 0 rfl) ?_
  refine g_v (wr := []) (rV (rest := []) hx hb hml hown hE hP hD 3 rfl rfl (c1241_X10_layLengths l g q1 q39 q40 q41 w3 w4 w5 w6 w7 w8 w11 w12 w13 w14 w15 w16 w17 w18 w19 w20 w21 w22 w23 w24 w25 w26 w27 w28 w29 w30 w31 w32 w33 w34 w35 w36 w37 w38 f42 f51 (hf43) (hf52) (hf44) (hf53) (hf45) (hf54) (hf46) (hf55) (hf47) (hf56) (hf48) (hf57) (hf49) (hf58) (hf50) (hf59) s.heap.size) (kV_X10_layLengths hE (e1452 hE) rfl rfl ⟨(Nat.le_of_ble_eq_true rfl), (Nat.le_of_ble_eq_true rfl)⟩) [0, 1, 2, 3] rfl (by decide) rfl hl.1 rfl (lv_room (Nat.le_of_ble_eq_true rfl)) dX10_isTooGreat_1 ⟨(Nat.le_of_ble_eq_true rfl), (Nat.le_of_ble_eq_true rfl)⟩) hP hD hS hA [0, 1, 2, 3] [] rfl rfl (by decide) (by decide) (fun u1 H locs hP hD hS => ?_)
  have hP : va_P g.1 vwCl [(q41, .inl (g.2 0, 8, .inl f51)), (q40, .inl (g.2 0, 8, .inl f51)), (q39, .inl (g.2 0, 497, .inl f42)), (q1, .inr (12, [.ref q39, w3, w4, w5, w6, w7, w8, .ref q40, .ref q41, w11, w12, w13, w14, w15, w16, w17, w18, w19, w20, w21, w22, w23, w24, w25, w26, w27, w28, w29, w30, w31, w32, w33, w34, w35, w36, w37, w38]))] H := hP
  have hD : va_D A [(q41, .inl (g.2 0, 8, .inl f51)), (q40, .inl (g.2 0, 8, .inl f51)), (q39, .inl (g.2 0, 497, .inl f42)), (q1, .inr (12, [.ref q39, w3, w4, w5, w6, w7, w8, .ref q40, .ref q41, w11, w12, w13, w14, w15, w16, w17, w18, w19, w20, w21, w22, w23, w24, w25, w26, w27, w28, w29, w30, w31, w32, w33, w34, w35, w36, w37, w38]))] := hD
  refine lv_iconst (v := 0) hx hb dX10_isTooGreat_4 (by decide) ?_
  refine lv_istore_n (lv' := [(1, .int 0), (0, .ref q1)]) hx hb dX10_isTooGreat_5 rfl hl (by decide) rfl (fun ls hl => ?_)
  refine lv_iconst (v := 0) hx hb dX10_isTooGreat_6 (by decide) ?_
  refine lv_istore_n (lv' := [(2, .int 0), (1, .int 0), (0, .ref q1)]) hx hb dX10_isTooGreat_7 rfl hl (by decide) rfl (fun ls hl => ?_)
  refine lv_iload_n hx hb dX10_isTooGreat_8 rfl (lv_at hl 0 rfl) ?_
  refine lv_bipush (v := 8) hx hb dX10_isTooGreat_9 (by decide) ?_
  refine lv_icmp_ge (tgt := 40) hx hb dX10_isTooGreat_11 (by decide) (fun h => absurd h (by decide)) (fun _ => ?_)
  refine lv_iload_n hx hb dX10_isTooGreat_14 rfl (lv_at hl 1 rfl) ?_
  refine lv_aload_n hx hb dX10_isTooGreat_15 rfl (lv_at hl 2 rfl) ?_
  refine gf_RX10_22 hx hb hown hE hP 3 rfl rfl dX10_isTooGreat_16 ?_
  refine lv_iload_n hx hb dX10_isTooGreat_19 rfl (lv_at hl 0 rfl) ?_
  refine x_iald (v := 0) hx hb hE hP 1 rfl 0 (x_in (by decide)) (by decide) hf52 dX10_isTooGreat_20 ?_
  refine lv_sipush (v := 20000) hx hb dX10_isTooGreat_21 (by decide) ?_
  refine lv_icmp_le (tgt := 31) hx hb dX10_isTooGreat_24 (by decide) (fun _ => ?_) (fun h => absurd (by decide) h)
  refine lv_iconst (v := 0) hx hb dX10_isTooGreat_31 (by decide) ?_
  refine x_ior (v := 0) hx hb dX10_isTooGreat_32 (by decide) ?_
  refine lv_istore_n (lv' := [(1, .int 0), (2, .int 0), (0, .ref q1)]) hx hb dX10_isTooGreat_33 rfl hl (by decide) rfl (fun ls hl => ?_)
  refine lv_iinc (v := 1) (lv' := [(2, .int 1), (1, .int 0), (0, .ref q1)]) hx hb dX10_isTooGreat_34 hl (k := 1) rfl (by decide) (by decide) rfl (fun ls hl => ?_)
  refine lv_goto (tgt := 8) hx hb dX10_isTooGreat_37 (by decide) ?_
  refine lv_iload_n hx hb dX10_isTooGreat_8 rfl (lv_at hl 0 rfl) ?_
  refine lv_bipush (v := 8) hx hb dX10_isTooGreat_9 (by decide) ?_
  refine lv_icmp_ge (tgt := 40) hx hb dX10_isTooGreat_11 (by decide) (fun h => absurd h (by decide)) (fun _ => ?_)
  refine lv_iload_n hx hb dX10_isTooGreat_14 rfl (lv_at hl 1 rfl) ?_
  refine lv_aload_n hx hb dX10_isTooGreat_15 rfl (lv_at hl 2 rfl) ?_
  refine gf_RX10_22 hx hb hown hE hP 3 rfl rfl dX10_isTooGreat_16 ?_
  refine lv_iload_n hx hb dX10_isTooGreat_19 rfl (lv_at hl 0 rfl) ?_
  refine x_iald (v := 0) hx hb hE hP 1 rfl 1 (x_in (by decide)) (by decide) hf53 dX10_isTooGreat_20 ?_
  refine lv_sipush (v := 20000) hx hb dX10_isTooGreat_21 (by decide) ?_
  refine lv_icmp_le (tgt := 31) hx hb dX10_isTooGreat_24 (by decide) (fun _ => ?_) (fun h => absurd (by decide) h)
  refine lv_iconst (v := 0) hx hb dX10_isTooGreat_31 (by decide) ?_
  refine x_ior (v := 0) hx hb dX10_isTooGreat_32 (by decide) ?_
  refine lv_istore_n (lv' := [(1, .int 0), (2, .int 1), (0, .ref q1)]) hx hb dX10_isTooGreat_33 rfl hl (by decide) rfl (fun ls hl => ?_)
  refine lv_iinc (v := 2) (lv' := [(2, .int 2), (1, .int 0), (0, .ref q1)]) hx hb dX10_isTooGreat_34 hl (k := 1) rfl (by decide) (by decide) rfl (fun ls hl => ?_)
  refine lv_goto (tgt := 8) hx hb dX10_isTooGreat_37 (by decide) ?_
  refine lv_iload_n hx hb dX10_isTooGreat_8 rfl (lv_at hl 0 rfl) ?_
  refine lv_bipush (v := 8) hx hb dX10_isTooGreat_9 (by decide) ?_
  refine lv_icmp_ge (tgt := 40) hx hb dX10_isTooGreat_11 (by decide) (fun h => absurd h (by decide)) (fun _ => ?_)
  refine lv_iload_n hx hb dX10_isTooGreat_14 rfl (lv_at hl 1 rfl) ?_
  refine lv_aload_n hx hb dX10_isTooGreat_15 rfl (lv_at hl 2 rfl) ?_
  refine gf_RX10_22 hx hb hown hE hP 3 rfl rfl dX10_isTooGreat_16 ?_
  refine lv_iload_n hx hb dX10_isTooGreat_19 rfl (lv_at hl 0 rfl) ?_
  refine x_iald (v := 0) hx hb hE hP 1 rfl 2 (x_in (by decide)) (by decide) hf54 dX10_isTooGreat_20 ?_
  refine lv_sipush (v := 20000) hx hb dX10_isTooGreat_21 (by decide) ?_
  refine lv_icmp_le (tgt := 31) hx hb dX10_isTooGreat_24 (by decide) (fun _ => ?_) (fun h => absurd (by decide) h)
  refine lv_iconst (v := 0) hx hb dX10_isTooGreat_31 (by decide) ?_
  refine x_ior (v := 0) hx hb dX10_isTooGreat_32 (by decide) ?_
  refine lv_istore_n (lv' := [(1, .int 0), (2, .int 2), (0, .ref q1)]) hx hb dX10_isTooGreat_33 rfl hl (by decide) rfl (fun ls hl => ?_)
  refine lv_iinc (v := 3) (lv' := [(2, .int 3), (1, .int 0), (0, .ref q1)]) hx hb dX10_isTooGreat_34 hl (k := 1) rfl (by decide) (by decide) rfl (fun ls hl => ?_)
  refine lv_goto (tgt := 8) hx hb dX10_isTooGreat_37 (by decide) ?_
  refine lv_iload_n hx hb dX10_isTooGreat_8 rfl (lv_at hl 0 rfl) ?_
  refine lv_bipush (v := 8) hx hb dX10_isTooGreat_9 (by decide) ?_
  refine lv_icmp_ge (tgt := 40) hx hb dX10_isTooGreat_11 (by decide) (fun h => absurd h (by decide)) (fun _ => ?_)
  refine lv_iload_n hx hb dX10_isTooGreat_14 rfl (lv_at hl 1 rfl) ?_
  refine lv_aload_n hx hb dX10_isTooGreat_15 rfl (lv_at hl 2 rfl) ?_
  refine gf_RX10_22 hx hb hown hE hP 3 rfl rfl dX10_isTooGreat_16 ?_
  refine lv_iload_n hx hb dX10_isTooGreat_19 rfl (lv_at hl 0 rfl) ?_
  refine x_iald (v := 0) hx hb hE hP 1 rfl 3 (x_in (by decide)) (by decide) hf55 dX10_isTooGreat_20 ?_
  refine lv_sipush (v := 20000) hx hb dX10_isTooGreat_21 (by decide) ?_
  refine lv_icmp_le (tgt := 31) hx hb dX10_isTooGreat_24 (by decide) (fun _ => ?_) (fun h => absurd (by decide) h)
  refine lv_iconst (v := 0) hx hb dX10_isTooGreat_31 (by decide) ?_
  refine x_ior (v := 0) hx hb dX10_isTooGreat_32 (by decide) ?_
  refine lv_istore_n (lv' := [(1, .int 0), (2, .int 3), (0, .ref q1)]) hx hb dX10_isTooGreat_33 rfl hl (by decide) rfl (fun ls hl => ?_)
  refine lv_iinc (v := 4) (lv' := [(2, .int 4), (1, .int 0), (0, .ref q1)]) hx hb dX10_isTooGreat_34 hl (k := 1) rfl (by decide) (by decide) rfl (fun ls hl => ?_)
  refine lv_goto (tgt := 8) hx hb dX10_isTooGreat_37 (by decide) ?_
  refine lv_iload_n hx hb dX10_isTooGreat_8 rfl (lv_at hl 0 rfl) ?_
  refine lv_bipush (v := 8) hx hb dX10_isTooGreat_9 (by decide) ?_
  refine lv_icmp_ge (tgt := 40) hx hb dX10_isTooGreat_11 (by decide) (fun h => absurd h (by decide)) (fun _ => ?_)
  refine lv_iload_n hx hb dX10_isTooGreat_14 rfl (lv_at hl 1 rfl) ?_
  refine lv_aload_n hx hb dX10_isTooGreat_15 rfl (lv_at hl 2 rfl) ?_
  refine gf_RX10_22 hx hb hown hE hP 3 rfl rfl dX10_isTooGreat_16 ?_
  refine lv_iload_n hx hb dX10_isTooGreat_19 rfl (lv_at hl 0 rfl) ?_
  refine x_iald (v := 0) hx hb hE hP 1 rfl 4 (x_in (by decide)) (by decide) hf56 dX10_isTooGreat_20 ?_
  refine lv_sipush (v := 20000) hx hb dX10_isTooGreat_21 (by decide) ?_
  refine lv_icmp_le (tgt := 31) hx hb dX10_isTooGreat_24 (by decide) (fun _ => ?_) (fun h => absurd (by decide) h)
  refine lv_iconst (v := 0) hx hb dX10_isTooGreat_31 (by decide) ?_
  refine x_ior (v := 0) hx hb dX10_isTooGreat_32 (by decide) ?_
  refine lv_istore_n (lv' := [(1, .int 0), (2, .int 4), (0, .ref q1)]) hx hb dX10_isTooGreat_33 rfl hl (by decide) rfl (fun ls hl => ?_)
  refine lv_iinc (v := 5) (lv' := [(2, .int 5), (1, .int 0), (0, .ref q1)]) hx hb dX10_isTooGreat_34 hl (k := 1) rfl (by decide) (by decide) rfl (fun ls hl => ?_)
  refine lv_goto (tgt := 8) hx hb dX10_isTooGreat_37 (by decide) ?_
  refine lv_iload_n hx hb dX10_isTooGreat_8 rfl (lv_at hl 0 rfl) ?_
  refine lv_bipush (v := 8) hx hb dX10_isTooGreat_9 (by decide) ?_
  refine lv_icmp_ge (tgt := 40) hx hb dX10_isTooGreat_11 (by decide) (fun h => absurd h (by decide)) (fun _ => ?_)
  refine lv_iload_n hx hb dX10_isTooGreat_14 rfl (lv_at hl 1 rfl) ?_
  refine lv_aload_n hx hb dX10_isTooGreat_15 rfl (lv_at hl 2 rfl) ?_
  refine gf_RX10_22 hx hb hown hE hP 3 rfl rfl dX10_isTooGreat_16 ?_
  refine lv_iload_n hx hb dX10_isTooGreat_19 rfl (lv_at hl 0 rfl) ?_
  refine x_iald (v := 0) hx hb hE hP 1 rfl 5 (x_in (by decide)) (by decide) hf57 dX10_isTooGreat_20 ?_
  refine lv_sipush (v := 20000) hx hb dX10_isTooGreat_21 (by decide) ?_
  refine lv_icmp_le (tgt := 31) hx hb dX10_isTooGreat_24 (by decide) (fun _ => ?_) (fun h => absurd (by decide) h)
  refine lv_iconst (v := 0) hx hb dX10_isTooGreat_31 (by decide) ?_
  refine x_ior (v := 0) hx hb dX10_isTooGreat_32 (by decide) ?_
  refine lv_istore_n (lv' := [(1, .int 0), (2, .int 5), (0, .ref q1)]) hx hb dX10_isTooGreat_33 rfl hl (by decide) rfl (fun ls hl => ?_)
  refine lv_iinc (v := 6) (lv' := [(2, .int 6), (1, .int 0), (0, .ref q1)]) hx hb dX10_isTooGreat_34 hl (k := 1) rfl (by decide) (by decide) rfl (fun ls hl => ?_)
  refine lv_goto (tgt := 8) hx hb dX10_isTooGreat_37 (by decide) ?_
  refine lv_iload_n hx hb dX10_isTooGreat_8 rfl (lv_at hl 0 rfl) ?_
  refine lv_bipush (v := 8) hx hb dX10_isTooGreat_9 (by decide) ?_
  refine lv_icmp_ge (tgt := 40) hx hb dX10_isTooGreat_11 (by decide) (fun h => absurd h (by decide)) (fun _ => ?_)
  refine lv_iload_n hx hb dX10_isTooGreat_14 rfl (lv_at hl 1 rfl) ?_
  refine lv_aload_n hx hb dX10_isTooGreat_15 rfl (lv_at hl 2 rfl) ?_
  refine gf_RX10_22 hx hb hown hE hP 3 rfl rfl dX10_isTooGreat_16 ?_
  refine lv_iload_n hx hb dX10_isTooGreat_19 rfl (lv_at hl 0 rfl) ?_
  refine x_iald (v := 0) hx hb hE hP 1 rfl 6 (x_in (by decide)) (by decide) hf58 dX10_isTooGreat_20 ?_
  refine lv_sipush (v := 20000) hx hb dX10_isTooGreat_21 (by decide) ?_
  refine lv_icmp_le (tgt := 31) hx hb dX10_isTooGreat_24 (by decide) (fun _ => ?_) (fun h => absurd (by decide) h)
  refine lv_iconst (v := 0) hx hb dX10_isTooGreat_31 (by decide) ?_
  refine x_ior (v := 0) hx hb dX10_isTooGreat_32 (by decide) ?_
  refine lv_istore_n (lv' := [(1, .int 0), (2, .int 6), (0, .ref q1)]) hx hb dX10_isTooGreat_33 rfl hl (by decide) rfl (fun ls hl => ?_)
  refine lv_iinc (v := 7) (lv' := [(2, .int 7), (1, .int 0), (0, .ref q1)]) hx hb dX10_isTooGreat_34 hl (k := 1) rfl (by decide) (by decide) rfl (fun ls hl => ?_)
  refine lv_goto (tgt := 8) hx hb dX10_isTooGreat_37 (by decide) ?_
  refine lv_iload_n hx hb dX10_isTooGreat_8 rfl (lv_at hl 0 rfl) ?_
  refine lv_bipush (v := 8) hx hb dX10_isTooGreat_9 (by decide) ?_
  refine lv_icmp_ge (tgt := 40) hx hb dX10_isTooGreat_11 (by decide) (fun h => absurd h (by decide)) (fun _ => ?_)
  refine lv_iload_n hx hb dX10_isTooGreat_14 rfl (lv_at hl 1 rfl) ?_
  refine lv_aload_n hx hb dX10_isTooGreat_15 rfl (lv_at hl 2 rfl) ?_
  refine gf_RX10_22 hx hb hown hE hP 3 rfl rfl dX10_isTooGreat_16 ?_
  refine lv_iload_n hx hb dX10_isTooGreat_19 rfl (lv_at hl 0 rfl) ?_
  refine x_iald (v := 0) hx hb hE hP 1 rfl 7 (x_in (by decide)) (by decide) hf59 dX10_isTooGreat_20 ?_
  refine lv_sipush (v := 20000) hx hb dX10_isTooGreat_21 (by decide) ?_
  refine lv_icmp_le (tgt := 31) hx hb dX10_isTooGreat_24 (by decide) (fun _ => ?_) (fun h => absurd (by decide) h)
  refine lv_iconst (v := 0) hx hb dX10_isTooGreat_31 (by decide) ?_
  refine x_ior (v := 0) hx hb dX10_isTooGreat_32 (by decide) ?_
  refine lv_istore_n (lv' := [(1, .int 0), (2, .int 7), (0, .ref q1)]) hx hb dX10_isTooGreat_33 rfl hl (by decide) rfl (fun ls hl => ?_)
  refine lv_iinc (v := 8) (lv' := [(2, .int 8), (1, .int 0), (0, .ref q1)]) hx hb dX10_isTooGreat_34 hl (k := 1) rfl (by decide) (by decide) rfl (fun ls hl => ?_)
  refine lv_goto (tgt := 8) hx hb dX10_isTooGreat_37 (by decide) ?_
  refine lv_iload_n hx hb dX10_isTooGreat_8 rfl (lv_at hl 0 rfl) ?_
  refine lv_bipush (v := 8) hx hb dX10_isTooGreat_9 (by decide) ?_
  refine lv_icmp_ge (tgt := 40) hx hb dX10_isTooGreat_11 (by decide) (fun _ => ?_) (fun h => absurd (by decide) h)
  refine lv_iconst (v := 0) hx hb dX10_isTooGreat_40 (by decide) ?_
  refine lv_istore_n (lv' := [(2, .int 0), (1, .int 0), (0, .ref q1)]) hx hb dX10_isTooGreat_41 rfl hl (by decide) rfl (fun ls hl => ?_)
  refine lv_iconst (v := 0) hx hb dX10_isTooGreat_42 (by decide) ?_
  refine lv_istore_n (lv' := [(3, .int 0), (2, .int 0), (1, .int 0), (0, .ref q1)]) hx hb dX10_isTooGreat_43 rfl hl (by decide) rfl (fun ls hl => ?_)
  refine lv_iload_n hx hb dX10_isTooGreat_44 rfl (lv_at hl 0 rfl) ?_
  refine lv_aload_n hx hb dX10_isTooGreat_45 rfl (lv_at hl 3 rfl) ?_
  refine gf_RX10_9 hx hb hown hE hP 3 rfl rfl dX10_isTooGreat_46 ?_
  refine lv_sipush (v := 392) hx hb dX10_isTooGreat_49 (by decide) ?_
  refine x_iald (v := 1) hx hb hE hP 2 rfl 392 (x_in (by decide)) (by decide) hf60 dX10_isTooGreat_52 ?_
  refine lv_icmp_ge (tgt := 115) hx hb dX10_isTooGreat_53 (by decide) (fun h => absurd h (by decide)) (fun _ => ?_)
  refine lv_iload_n hx hb dX10_isTooGreat_56 rfl (lv_at hl 2 rfl) ?_
  refine lv_aload_n hx hb dX10_isTooGreat_57 rfl (lv_at hl 3 rfl) ?_
  refine lv_iload_n hx hb dX10_isTooGreat_58 rfl (lv_at hl 0 rfl) ?_
  refine lv_iconst (v := 2) hx hb dX10_isTooGreat_59 (by decide) ?_
  refine g_i (wr := [(q41, .inl (g.2 0, 8, .inl f51)), (q40, .inl (g.2 0, 8, .inl f51))]) (rV (rest := [.int 0]) hx hb hml hown hE hP hD 3 rfl rfl (c1512_X10_ofClip l g q1 q39 x62 w3 w4 w5 w6 w7 w8 (.ref q40) (.ref q41) w11 w12 w13 w14 w15 w16 w17 w18 w19 w20 w21 w22 w23 w24 w25 w26 w27 w28 w29 w30 w31 w32 w33 w34 w35 w36 w37 w38 f42 (hf61) H.size) (kV_X10_ofClip hE (e1466 hE) rfl rfl ⟨(Nat.le_of_ble_eq_true rfl), (Nat.le_of_ble_eq_true rfl)⟩) [2, 3] rfl (by decide) rfl hl.1 rfl (lv_room (Nat.le_of_ble_eq_true rfl)) dX10_isTooGreat_60 ⟨(Nat.le_of_ble_eq_true rfl), (Nat.le_of_ble_eq_true rfl)⟩) hP hD hS hA [2, 3] [0, 1] rfl rfl (by decide) (by decide) (fun u2 H locs hP hD hS => ?_)
  have hP : va_P g.1 vwCl [(q41, .inl (g.2 0, 8, .inl f51)), (q40, .inl (g.2 0, 8, .inl f51)), (q39, .inl (g.2 0, 497, .inl f42)), (q1, .inr (12, [.ref q39, w3, w4, w5, w6, w7, w8, .ref q40, .ref q41, w11, w12, w13, w14, w15, w16, w17, w18, w19, w20, w21, w22, w23, w24, w25, w26, w27, w28, w29, w30, w31, w32, w33, w34, w35, w36, w37, w38]))] H := hP
  have hD : va_D A [(q41, .inl (g.2 0, 8, .inl f51)), (q40, .inl (g.2 0, 8, .inl f51)), (q39, .inl (g.2 0, 497, .inl f42)), (q1, .inr (12, [.ref q39, w3, w4, w5, w6, w7, w8, .ref q40, .ref q41, w11, w12, w13, w14, w15, w16, w17, w18, w19, w20, w21, w22, w23, w24, w25, w26, w27, w28, w29, w30, w31, w32, w33, w34, w35, w36, w37, w38]))] := hD
  refine lv_aload_n hx hb dX10_isTooGreat_63 rfl (lv_at hl 3 rfl) ?_
  refine gf_RX10_22 hx hb hown hE hP 3 rfl rfl dX10_isTooGreat_64 ?_
  refine lv_aload_n hx hb dX10_isTooGreat_67 rfl (lv_at hl 3 rfl) ?_
  refine lv_iload_n hx hb dX10_isTooGreat_68 rfl (lv_at hl 0 rfl) ?_
  refine lv_iconst (v := 1) hx hb dX10_isTooGreat_69 (by decide) ?_
  refine g_i (wr := [(q41, .inl (g.2 0, 8, .inl f51)), (q40, .inl (g.2 0, 8, .inl f51))]) (rV (rest := [.ref q40, .int x62, .int 0]) hx hb hml hown hE hP hD 3 rfl rfl (c1576_X10_ofClip l g q1 q39 w3 w4 w5 w6 w7 w8 (.ref q40) (.ref q41) w11 w12 w13 w14 w15 w16 w17 w18 w19 w20 w21 w22 w23 w24 w25 w26 w27 w28 w29 w30 w31 w32 w33 w34 w35 w36 w37 w38 f42 (hf63) H.size) (kV_X10_ofClip hE (e1466 hE) rfl rfl ⟨(Nat.le_of_ble_eq_true rfl), (Nat.le_of_ble_eq_true rfl)⟩) [2, 3] rfl (by decide) rfl hl.1 rfl (lv_room (Nat.le_of_ble_eq_true rfl)) dX10_isTooGreat_70 ⟨(Nat.le_of_ble_eq_true rfl), (Nat.le_of_ble_eq_true rfl)⟩) hP hD hS hA [2, 3] [0, 1] rfl rfl (by decide) (by decide) (fun u3 H locs hP hD hS => ?_)
  have hP : va_P g.1 vwCl [(q41, .inl (g.2 0, 8, .inl f51)), (q40, .inl (g.2 0, 8, .inl f51)), (q39, .inl (g.2 0, 497, .inl f42)), (q1, .inr (12, [.ref q39, w3, w4, w5, w6, w7, w8, .ref q40, .ref q41, w11, w12, w13, w14, w15, w16, w17, w18, w19, w20, w21, w22, w23, w24, w25, w26, w27, w28, w29, w30, w31, w32, w33, w34, w35, w36, w37, w38]))] H := hP
  have hD : va_D A [(q41, .inl (g.2 0, 8, .inl f51)), (q40, .inl (g.2 0, 8, .inl f51)), (q39, .inl (g.2 0, 497, .inl f42)), (q1, .inr (12, [.ref q39, w3, w4, w5, w6, w7, w8, .ref q40, .ref q41, w11, w12, w13, w14, w15, w16, w17, w18, w19, w20, w21, w22, w23, w24, w25, w26, w27, w28, w29, w30, w31, w32, w33, w34, w35, w36, w37, w38]))] := hD
  refine x_iald (v := 0) hx hb hE hP 1 rfl 7 (x_in (by decide)) (by decide) hf59 dX10_isTooGreat_73 ?_
  refine x_imul (v := 0) hx hb dX10_isTooGreat_74 (Int32.mul_zero) ?_
  refine lv_sipush (v := 20000) hx hb dX10_isTooGreat_75 (by decide) ?_
  refine lv_icmp_le (tgt := 85) hx hb dX10_isTooGreat_78 (by decide) (fun _ => ?_) (fun h => absurd (by decide) h)
  refine lv_iconst (v := 0) hx hb dX10_isTooGreat_85 (by decide) ?_
  refine x_ior (v := 0) hx hb dX10_isTooGreat_86 (by decide) ?_
  refine lv_istore_n (lv' := [(1, .int 0), (3, .int 0), (2, .int 0), (0, .ref q1)]) hx hb dX10_isTooGreat_87 rfl hl (by decide) rfl (fun ls hl => ?_)
  refine lv_iload_n hx hb dX10_isTooGreat_88 rfl (lv_at hl 2 rfl) ?_
  refine lv_aload_n hx hb dX10_isTooGreat_89 rfl (lv_at hl 3 rfl) ?_
  refine lv_iload_n hx hb dX10_isTooGreat_90 rfl (lv_at hl 1 rfl) ?_
  refine lv_iconst (v := 2) hx hb dX10_isTooGreat_91 (by decide) ?_
  refine g_i (wr := [(q41, .inl (g.2 0, 8, .inl f51)), (q40, .inl (g.2 0, 8, .inl f51))]) (rV (rest := [.int 0]) hx hb hml hown hE hP hD 3 rfl rfl (c1512_X10_ofClip l g q1 q39 x62 w3 w4 w5 w6 w7 w8 (.ref q40) (.ref q41) w11 w12 w13 w14 w15 w16 w17 w18 w19 w20 w21 w22 w23 w24 w25 w26 w27 w28 w29 w30 w31 w32 w33 w34 w35 w36 w37 w38 f42 (hf61) H.size) (kV_X10_ofClip hE (e1466 hE) rfl rfl ⟨(Nat.le_of_ble_eq_true rfl), (Nat.le_of_ble_eq_true rfl)⟩) [2, 3] rfl (by decide) rfl hl.1 rfl (lv_room (Nat.le_of_ble_eq_true rfl)) dX10_isTooGreat_92 ⟨(Nat.le_of_ble_eq_true rfl), (Nat.le_of_ble_eq_true rfl)⟩) hP hD hS hA [2, 3] [0, 1] rfl rfl (by decide) (by decide) (fun u4 H locs hP hD hS => ?_)
  have hP : va_P g.1 vwCl [(q41, .inl (g.2 0, 8, .inl f51)), (q40, .inl (g.2 0, 8, .inl f51)), (q39, .inl (g.2 0, 497, .inl f42)), (q1, .inr (12, [.ref q39, w3, w4, w5, w6, w7, w8, .ref q40, .ref q41, w11, w12, w13, w14, w15, w16, w17, w18, w19, w20, w21, w22, w23, w24, w25, w26, w27, w28, w29, w30, w31, w32, w33, w34, w35, w36, w37, w38]))] H := hP
  have hD : va_D A [(q41, .inl (g.2 0, 8, .inl f51)), (q40, .inl (g.2 0, 8, .inl f51)), (q39, .inl (g.2 0, 497, .inl f42)), (q1, .inr (12, [.ref q39, w3, w4, w5, w6, w7, w8, .ref q40, .ref q41, w11, w12, w13, w14, w15, w16, w17, w18, w19, w20, w21, w22, w23, w24, w25, w26, w27, w28, w29, w30, w31, w32, w33, w34, w35, w36, w37, w38]))] := hD
  refine lv_aload_n hx hb dX10_isTooGreat_95 rfl (lv_at hl 3 rfl) ?_
  refine gf_RX10_25 hx hb hown hE hP 3 rfl rfl dX10_isTooGreat_96 ?_
  refine lv_aload_n hx hb dX10_isTooGreat_99 rfl (lv_at hl 3 rfl) ?_
  refine lv_iload_n hx hb dX10_isTooGreat_100 rfl (lv_at hl 1 rfl) ?_
  refine lv_iconst (v := 1) hx hb dX10_isTooGreat_101 (by decide) ?_
  refine g_i (wr := [(q41, .inl (g.2 0, 8, .inl f51)), (q40, .inl (g.2 0, 8, .inl f51))]) (rV (rest := [.ref q41, .int x62, .int 0]) hx hb hml hown hE hP hD 3 rfl rfl (c1576_X10_ofClip l g q1 q39 w3 w4 w5 w6 w7 w8 (.ref q40) (.ref q41) w11 w12 w13 w14 w15 w16 w17 w18 w19 w20 w21 w22 w23 w24 w25 w26 w27 w28 w29 w30 w31 w32 w33 w34 w35 w36 w37 w38 f42 (hf63) H.size) (kV_X10_ofClip hE (e1466 hE) rfl rfl ⟨(Nat.le_of_ble_eq_true rfl), (Nat.le_of_ble_eq_true rfl)⟩) [2, 3] rfl (by decide) rfl hl.1 rfl (lv_room (Nat.le_of_ble_eq_true rfl)) dX10_isTooGreat_102 ⟨(Nat.le_of_ble_eq_true rfl), (Nat.le_of_ble_eq_true rfl)⟩) hP hD hS hA [2, 3] [0, 1] rfl rfl (by decide) (by decide) (fun u5 H locs hP hD hS => ?_)
  have hP : va_P g.1 vwCl [(q41, .inl (g.2 0, 8, .inl f51)), (q40, .inl (g.2 0, 8, .inl f51)), (q39, .inl (g.2 0, 497, .inl f42)), (q1, .inr (12, [.ref q39, w3, w4, w5, w6, w7, w8, .ref q40, .ref q41, w11, w12, w13, w14, w15, w16, w17, w18, w19, w20, w21, w22, w23, w24, w25, w26, w27, w28, w29, w30, w31, w32, w33, w34, w35, w36, w37, w38]))] H := hP
  have hD : va_D A [(q41, .inl (g.2 0, 8, .inl f51)), (q40, .inl (g.2 0, 8, .inl f51)), (q39, .inl (g.2 0, 497, .inl f42)), (q1, .inr (12, [.ref q39, w3, w4, w5, w6, w7, w8, .ref q40, .ref q41, w11, w12, w13, w14, w15, w16, w17, w18, w19, w20, w21, w22, w23, w24, w25, w26, w27, w28, w29, w30, w31, w32, w33, w34, w35, w36, w37, w38]))] := hD
  refine x_iald (v := 0) hx hb hE hP 0 rfl 7 (x_in (by decide)) (by decide) hf59 dX10_isTooGreat_105 ?_
  refine x_imul (v := 0) hx hb dX10_isTooGreat_106 (Int32.mul_zero) ?_
  refine x_iadd (v := 0) hx hb dX10_isTooGreat_107 (by decide) ?_
  refine lv_istore_n (lv' := [(2, .int 0), (1, .int 0), (3, .int 0), (0, .ref q1)]) hx hb dX10_isTooGreat_108 rfl hl (by decide) rfl (fun ls hl => ?_)
  refine lv_iinc (v := 1) (lv' := [(3, .int 1), (2, .int 0), (1, .int 0), (0, .ref q1)]) hx hb dX10_isTooGreat_109 hl (k := 2) rfl (by decide) (by decide) rfl (fun ls hl => ?_)
  refine lv_goto (tgt := 44) hx hb dX10_isTooGreat_112 (by decide) ?_
  refine lv_iload_n hx hb dX10_isTooGreat_44 rfl (lv_at hl 0 rfl) ?_
  refine lv_aload_n hx hb dX10_isTooGreat_45 rfl (lv_at hl 3 rfl) ?_
  refine gf_RX10_9 hx hb hown hE hP 3 rfl rfl dX10_isTooGreat_46 ?_
  refine lv_sipush (v := 392) hx hb dX10_isTooGreat_49 (by decide) ?_
  refine x_iald (v := 1) hx hb hE hP 2 rfl 392 (x_in (by decide)) (by decide) hf60 dX10_isTooGreat_52 ?_
  refine lv_icmp_ge (tgt := 115) hx hb dX10_isTooGreat_53 (by decide) (fun _ => ?_) (fun h => absurd (by decide) h)
  refine lv_iload_n hx hb dX10_isTooGreat_115 rfl (lv_at hl 2 rfl) ?_
  refine lv_if_ne (tgt := 126) hx hb dX10_isTooGreat_116 (by decide) (fun h => absurd h (by decide)) (fun _ => ?_)
  refine lv_iload_n hx hb dX10_isTooGreat_119 rfl (lv_at hl 1 rfl) ?_
  refine lv_sipush (v := 300) hx hb dX10_isTooGreat_120 (by decide) ?_
  refine lv_icmp_le (tgt := 130) hx hb dX10_isTooGreat_123 (by decide) (fun _ => ?_) (fun h => absurd (by decide) h)
  refine lv_iconst (v := 0) hx hb dX10_isTooGreat_130 (by decide) ?_
  exact x_zret hx hb hr rfl rfl hlocks hP hD hS hAe hsz (Nat.le_of_ble_eq_true rfl) (Nat.le_of_ble_eq_true rfl) (fun _ => 0) [0, 1, 2, 3] (by decide) rfl dX10_isTooGreat_131

set_option maxHeartbeats 4000000 in
set_option maxRecDepth 100000 in
theorem c1578_X10_addClip (l : Launch) (g : gG) (q1 q51 q54 q56 q57 q74 : Nat) (x2 x3 x4 x5 : Int32) (w7 w9 w12 w15 w16 w17 w18 w19 w20 w21 w22 w23 w24 w25 w26 w27 w28 w29 w30 w31 w32 w33 w34 w35 w36 w37 w38 w39 w40 w41 w42 : Value) (f52 : Nat → Int32) (f55 : Nat → Int32) (hf53 : f52 392 = 0) (hf58 : f52 0 = 0) (hf59 : f52 49 = 0) (hf60 : f52 98 = 0) (hf61 : f52 147 = 0) (hf62 : f52 196 = 0) (hf63 : f52 245 = 0) (hf64 : f52 294 = 0) (hf65 : f52 343 = 0) (hf66 : f55 0 = 0) (hf67 : f55 1 = 0) (hf68 : f55 2 = 0) (hf69 : f55 3 = 0) (hf70 : f55 4 = 0) (hf71 : f55 5 = 0) (hf72 : f55 6 = 0) (hf73 : f55 7 = 0) (h43 : (0 : Int32) ≤ x2) (h44 : x2 ≤ 9999) (h45 : (1 : Int32) ≤ x3) (h46 : x3 ≤ 9) (h47 : ((-50) : Int32) ≤ x4) (h48 : x4 ≤ 50) (h49 : (0 : Int32) ≤ x5) (h50 : x5 ≤ 3) (sz : Nat) : Met l yX10_addClip [Cond.code yX10_addClip cX10_addClip 8 (some .int)] ({ frames := 4, cells := 0, slots := 0, locals := 89 } : Room) (va_Pc [.ref q1, .int x2, .int 7, .int x3, .int x4, .int x5] (PX g sz [(q74, .inl (g.2 0, 3976, .inl f55)), (q57, .inl (g.2 0, 8, .inl f55)), (q56, .inl (g.2 0, 8, .inl f55)), (q54, .inl (g.2 0, 497, .inl f55)), (q51, .inl (g.2 0, 497, .inl f52)), (q1, .inr (12, [.ref q51, w7, .ref q54, w9, .ref q74, .int 0, w12, .ref q56, .ref q57, w15, w16, w17, w18, w19, w20, w21, w22, w23, w24, w25, w26, w27, w28, w29, w30, w31, w32, w33, w34, w35, w36, w37, w38, w39, w40, w41, w42]))])) (QI g [(q74, .inl (g.2 0, 3976, .inl f55)), (q57, .inl (g.2 0, 8, .inl f55)), (q56, .inl (g.2 0, 8, .inl f55)), (q54, .inl (g.2 0, 497, .inl f55)), (q51, .inl (g.2 0, 497, .inl f52)), (q1, .inr (12, [.ref q51, w7, .ref q54, w9, .ref q74, .int 0, w12, .ref q56, .ref q57, w15, w16, w17, w18, w19, w20, w21, w22, w23, w24, w25, w26, w27, w28, w29, w30, w31, w32, w33, w34, w35, w36, w37, w38, w39, w40, w41, w42]))] sz 0 (fun _ => [(q1, .inr (12, [.ref q51, w7, .ref q54, w9, .ref q74, .int 1, .int 0, .ref q56, .ref q57, w15, w16, w17, w18, w19, w20, w21, w22, w23, w24, w25, w26, w27, w28, w29, w30, w31, w32, w33, w34, w35, w36, w37, w38, w39, w40, w41, w42]))])) 0 0 (va_A [(q74, .inl (g.2 0, 3976, .inl f55)), (q57, .inl (g.2 0, 8, .inl f55)), (q56, .inl (g.2 0, 8, .inl f55)), (q54, .inl (g.2 0, 497, .inl f55)), (q51, .inl (g.2 0, 497, .inl f52)), (q1, .inr (12, [.ref q51, w7, .ref q54, w9, .ref q74, .int 0, w12, .ref q56, .ref q57, w15, w16, w17, w18, w19, w20, w21, w22, w23, w24, w25, w26, w27, w28, w29, w30, w31, w32, w33, w34, w35, w36, w37, w38, w39, w40, w41, w42]))] sz) := by
  refine ofN (by decide) (Nat.le_of_ble_eq_true rfl) rfl ?_
  intro p e s m args below meth c A ls hAe hsz hx hb hml hr hlocks hin hown hE hP hD hA hS hl
  have hown : s.vm.findClass RX10 = some m.cls := hown
  refine lv_aload_n hx hb dX10_addClip_0 rfl (lv_at hl 0 rfl) ?_
  refine lv_iconst (v := 0) hx hb dX10_addClip_1 (by decide) ?_
  refine pf_RX10_86 (ws' := [(q74, .inl (g.2 0, 3976, .inl f55)), (q57, .inl (g.2 0, 8, .inl f55)), (q56, .inl (g.2 0, 8, .inl f55)), (q54, .inl (g.2 0, 497, .inl f55)), (q51, .inl (g.2 0, 497, .inl f52)), (q1, .inr (12, [.ref q51, w7, .ref q54, w9, .ref q74, .int 0, .int 0, .ref q56, .ref q57, w15, w16, w17, w18, w19, w20, w21, w22, w23, w24, w25, w26, w27, w28, w29, w30, w31, w32, w33, w34, w35, w36, w37, w38, w39, w40, w41, w42]))]) hx hb hown hE hP hD hS 5 rfl rfl rfl (Nat.le_of_ble_eq_true rfl) dX10_addClip_2 rfl (fun H locs hP hD hS => ?_)
  refine lv_iload_n hx hb dX10_addClip_5 rfl (lv_at hl 1 rfl) ?_
  refine lv_iconst (v := 0) hx hb dX10_addClip_6 (by decide) ?_
  refine lv_sipush (v := 9999) hx hb dX10_addClip_7 (by decide) ?_
  refine g0_i (rS (rest := []) hx hb hml hown hE hP hD (c1480_X10_in l g x2 h43 h44 H.size) (kS_X10_in hE (e1431 hE) rfl rfl ⟨(Nat.le_of_ble_eq_true rfl), (Nat.le_of_ble_eq_true rfl)⟩) [] rfl (by decide) rfl hl.1 rfl (lv_room (Nat.le_of_ble_eq_true rfl)) dX10_addClip_10 ⟨(Nat.le_of_ble_eq_true rfl), (Nat.le_of_ble_eq_true rfl)⟩) hP hD hS hA (fun u9 H locs hP hS => ?_)
  refine lv_if_eq (tgt := 59) hx hb dX10_addClip_13 (by decide) (fun h => absurd h (by decide)) (fun _ => ?_)
  refine lv_iload_n hx hb dX10_addClip_16 rfl (lv_at hl 2 rfl) ?_
  refine g0_i (rS (rest := []) hx hb hml hown hE hP hD (c94_X10_isPattern l g 7 (by decide) (by decide) H.size) (kS_X10_isPattern hE (e1428 hE) rfl rfl ⟨(Nat.le_of_ble_eq_true rfl), (Nat.le_of_ble_eq_true rfl)⟩) [] rfl (by decide) rfl hl.1 rfl (lv_room (Nat.le_of_ble_eq_true rfl)) dX10_addClip_17 ⟨(Nat.le_of_ble_eq_true rfl), (Nat.le_of_ble_eq_true rfl)⟩) hP hD hS hA (fun u9 H locs hP hS => ?_)
  refine lv_if_eq (tgt := 59) hx hb dX10_addClip_20 (by decide) (fun h => absurd h (by decide)) (fun _ => ?_)
  refine lv_iload_n hx hb dX10_addClip_23 rfl (lv_at hl 3 rfl) ?_
  refine lv_iconst (v := 1) hx hb dX10_addClip_24 (by decide) ?_
  refine lv_bipush (v := 9) hx hb dX10_addClip_25 (by decide) ?_
  refine g0_i (rS (rest := []) hx hb hml hown hE hP hD (c196_X10_in l g x3 h45 h46 H.size) (kS_X10_in hE (e1431 hE) rfl rfl ⟨(Nat.le_of_ble_eq_true rfl), (Nat.le_of_ble_eq_true rfl)⟩) [] rfl (by decide) rfl hl.1 rfl (lv_room (Nat.le_of_ble_eq_true rfl)) dX10_addClip_27 ⟨(Nat.le_of_ble_eq_true rfl), (Nat.le_of_ble_eq_true rfl)⟩) hP hD hS hA (fun u9 H locs hP hS => ?_)
  refine lv_if_eq (tgt := 59) hx hb dX10_addClip_30 (by decide) (fun h => absurd h (by decide)) (fun _ => ?_)
  refine lv_iload hx hb dX10_addClip_33 (lv_at hl 4 rfl) ?_
  refine lv_bipush (v := (-50)) hx hb dX10_addClip_35 (by decide) ?_
  refine lv_bipush (v := 50) hx hb dX10_addClip_37 (by decide) ?_
  refine g0_i (rS (rest := []) hx hb hml hown hE hP hD (c1494_X10_in l g x4 h47 h48 H.size) (kS_X10_in hE (e1431 hE) rfl rfl ⟨(Nat.le_of_ble_eq_true rfl), (Nat.le_of_ble_eq_true rfl)⟩) [] rfl (by decide) rfl hl.1 rfl (lv_room (Nat.le_of_ble_eq_true rfl)) dX10_addClip_39 ⟨(Nat.le_of_ble_eq_true rfl), (Nat.le_of_ble_eq_true rfl)⟩) hP hD hS hA (fun u9 H locs hP hS => ?_)
  refine lv_if_eq (tgt := 59) hx hb dX10_addClip_42 (by decide) (fun h => absurd h (by decide)) (fun _ => ?_)
  refine lv_iload hx hb dX10_addClip_45 (lv_at hl 5 rfl) ?_
  refine lv_iconst (v := 0) hx hb dX10_addClip_47 (by decide) ?_
  refine lv_iconst (v := 3) hx hb dX10_addClip_48 (by decide) ?_
  refine g0_i (rS (rest := []) hx hb hml hown hE hP hD (c818_X10_in l g x5 h49 h50 H.size) (kS_X10_in hE (e1431 hE) rfl rfl ⟨(Nat.le_of_ble_eq_true rfl), (Nat.le_of_ble_eq_true rfl)⟩) [] rfl (by decide) rfl hl.1 rfl (lv_room (Nat.le_of_ble_eq_true rfl)) dX10_addClip_49 ⟨(Nat.le_of_ble_eq_true rfl), (Nat.le_of_ble_eq_true rfl)⟩) hP hD hS hA (fun u9 H locs hP hS => ?_)
  refine lv_if_eq (tgt := 59) hx hb dX10_addClip_52 (by decide) (fun h => absurd h (by decide)) (fun _ => ?_)
  refine lv_iconst (v := 1) hx hb dX10_addClip_55 (by decide) ?_
  refine lv_goto (tgt := 60) hx hb dX10_addClip_56 (by decide) ?_
  refine lv_istore (lv' := [(6, .int 1), (0, .ref q1), (1, .int x2), (2, .int 7), (3, .int x3), (4, .int x4), (5, .int x5)]) hx hb dX10_addClip_60 hl (by decide) rfl (fun ls hl => ?_)
  refine lv_iload hx hb dX10_addClip_62 (lv_at hl 0 rfl) ?_
  refine lv_if_ne (tgt := 73) hx hb dX10_addClip_64 (by decide) (fun _ => ?_) (fun h => absurd h (by decide))
  refine lv_aload_n hx hb dX10_addClip_73 rfl (lv_at hl 1 rfl) ?_
  refine gf_RX10_9 hx hb hown hE hP 5 rfl rfl dX10_addClip_74 ?_
  refine lv_sipush (v := 392) hx hb dX10_addClip_77 (by decide) ?_
  refine x_iald (v := 0) hx hb hE hP 4 rfl 392 (x_in (by decide)) (by decide) hf53 dX10_addClip_80 ?_
  refine lv_bipush (v := 12) hx hb dX10_addClip_81 (by decide) ?_
  refine lv_icmp_ne (tgt := 92) hx hb dX10_addClip_83 (by decide) (fun _ => ?_) (fun h => absurd h (by decide))
  refine lv_aload_n hx hb dX10_addClip_92 rfl (lv_at hl 1 rfl) ?_
  refine g_v (wr := [(q74, .inl (g.2 0, 3976, .inl f55)), (q57, .inl (g.2 0, 8, .inl f55)), (q56, .inl (g.2 0, 8, .inl f55))]) (rV (rest := []) hx hb hml hown hE hP hD 5 rfl rfl (c198_X10_putAside l g q1 q54 q51 w7 w9 (.ref q74) (.int 0) (.int 0) (.ref q56) (.ref q57) w15 w16 w17 w18 w19 w20 w21 w22 w23 w24 w25 w26 w27 w28 w29 w30 w31 w32 w33 w34 w35 w36 w37 w38 w39 w40 w41 w42 f52 f55 H.size) (kV_X10_putAside hE (e1437 hE) rfl rfl ⟨(Nat.le_of_ble_eq_true rfl), (Nat.le_of_ble_eq_true rfl)⟩) [3, 4, 5] rfl (by decide) rfl hl.1 rfl (lv_room (Nat.le_of_ble_eq_true rfl)) dX10_addClip_93 ⟨(Nat.le_of_ble_eq_true rfl), (Nat.le_of_ble_eq_true rfl)⟩) hP hD hS hA [3, 4, 5] [0, 1, 2] rfl rfl (by decide) (by decide) (fun u6 H locs hP hD hS => ?_)
  have hP : va_P g.1 vwCl [(q74, .inl (g.2 0, 3976, .inl f55)), (q57, .inl (g.2 0, 8, .inl f55)), (q56, .inl (g.2 0, 8, .inl f55)), (q54, .inl (g.2 0, 497, .inl (cpF 497 f52 f55))), (q51, .inl (g.2 0, 497, .inl f52)), (q1, .inr (12, [.ref q51, w7, .ref q54, w9, .ref q74, .int 0, .int 0, .ref q56, .ref q57, w15, w16, w17, w18, w19, w20, w21, w22, w23, w24, w25, w26, w27, w28, w29, w30, w31, w32, w33, w34, w35, w36, w37, w38, w39, w40, w41, w42]))] H := hP
  have hD : va_D A [(q74, .inl (g.2 0, 3976, .inl f55)), (q57, .inl (g.2 0, 8, .inl f55)), (q56, .inl (g.2 0, 8, .inl f55)), (q54, .inl (g.2 0, 497, .inl (cpF 497 f52 f55))), (q51, .inl (g.2 0, 497, .inl f52)), (q1, .inr (12, [.ref q51, w7, .ref q54, w9, .ref q74, .int 0, .int 0, .ref q56, .ref q57, w15, w16, w17, w18, w19, w20, w21, w22, w23, w24, w25, w26, w27, w28, w29, w30, w31, w32, w33, w34, w35, w36, w37, w38, w39, w40, w41, w42]))] := hD
  refine lv_sipush (v := 393) hx hb dX10_addClip_96 (by decide) ?_
  refine lv_iconst (v := 5) hx hb dX10_addClip_99 (by decide) ?_
  refine lv_aload_n hx hb dX10_addClip_100 rfl (lv_at hl 1 rfl) ?_
  refine gf_RX10_9 hx hb hown hE hP 5 rfl rfl dX10_addClip_101 ?_
  refine lv_sipush (v := 392) hx hb dX10_addClip_104 (by decide) ?_
  refine x_iald (v := 0) hx hb hE hP 4 rfl 392 (x_in (by decide)) (by decide) hf53 dX10_addClip_107 ?_
  refine x_imul (v := 0) hx hb dX10_addClip_108 (by decide) ?_
  refine x_iadd (v := 393) hx hb dX10_addClip_109 (by decide) ?_
  refine lv_istore (lv' := [(7, .int 393), (6, .int 1), (0, .ref q1), (1, .int x2), (2, .int 7), (3, .int x3), (4, .int x4), (5, .int x5)]) hx hb dX10_addClip_110 hl (by decide) rfl (fun ls hl => ?_)
  refine lv_aload_n hx hb dX10_addClip_112 rfl (lv_at hl 2 rfl) ?_
  refine gf_RX10_9 hx hb hown hE hP 5 rfl rfl dX10_addClip_113 ?_
  refine lv_iload hx hb dX10_addClip_116 (lv_at hl 0 rfl) ?_
  refine lv_iload_n hx hb dX10_addClip_118 rfl (lv_at hl 3 rfl) ?_
  refine x_iast (ws' := [(q74, .inl (g.2 0, 3976, .inl f55)), (q57, .inl (g.2 0, 8, .inl f55)), (q56, .inl (g.2 0, 8, .inl f55)), (q54, .inl (g.2 0, 497, .inl (cpF 497 f52 f55))), (q51, .inl (g.2 0, 497, .inl (upd f52 393 x2))), (q1, .inr (12, [.ref q51, w7, .ref q54, w9, .ref q74, .int 0, .int 0, .ref q56, .ref q57, w15, w16, w17, w18, w19, w20, w21, w22, w23, w24, w25, w26, w27, w28, w29, w30, w31, w32, w33, w34, w35, w36, w37, w38, w39, w40, w41, w42]))]) hx hb hE hP hD hS 4 rfl 393 (x_in (by decide)) (by decide) dX10_addClip_119 rfl (fun H locs hP hD hS => ?_)
  refine lv_aload_n hx hb dX10_addClip_120 rfl (lv_at hl 2 rfl) ?_
  refine gf_RX10_9 hx hb hown hE hP 5 rfl rfl dX10_addClip_121 ?_
  refine lv_iload hx hb dX10_addClip_124 (lv_at hl 0 rfl) ?_
  refine lv_iconst (v := 1) hx hb dX10_addClip_126 (by decide) ?_
  refine x_iadd (v := 394) hx hb dX10_addClip_127 (by decide) ?_
  refine lv_iload_n hx hb dX10_addClip_128 rfl (lv_at hl 4 rfl) ?_
  refine x_iast (ws' := [(q74, .inl (g.2 0, 3976, .inl f55)), (q57, .inl (g.2 0, 8, .inl f55)), (q56, .inl (g.2 0, 8, .inl f55)), (q54, .inl (g.2 0, 497, .inl (cpF 497 f52 f55))), (q51, .inl (g.2 0, 497, .inl (upd (upd f52 393 x2) 394 7))), (q1, .inr (12, [.ref q51, w7, .ref q54, w9, .ref q74, .int 0, .int 0, .ref q56, .ref q57, w15, w16, w17, w18, w19, w20, w21, w22, w23, w24, w25, w26, w27, w28, w29, w30, w31, w32, w33, w34, w35, w36, w37, w38, w39, w40, w41, w42]))]) hx hb hE hP hD hS 4 rfl 394 (x_in (by decide)) (by decide) dX10_addClip_129 rfl (fun H locs hP hD hS => ?_)
  refine lv_aload_n hx hb dX10_addClip_130 rfl (lv_at hl 2 rfl) ?_
  refine gf_RX10_9 hx hb hown hE hP 5 rfl rfl dX10_addClip_131 ?_
  refine lv_iload hx hb dX10_addClip_134 (lv_at hl 0 rfl) ?_
  refine lv_iconst (v := 2) hx hb dX10_addClip_136 (by decide) ?_
  refine x_iadd (v := 395) hx hb dX10_addClip_137 (by decide) ?_
  refine lv_iload_n hx hb dX10_addClip_138 rfl (lv_at hl 5 rfl) ?_
  refine x_iast (ws' := [(q74, .inl (g.2 0, 3976, .inl f55)), (q57, .inl (g.2 0, 8, .inl f55)), (q56, .inl (g.2 0, 8, .inl f55)), (q54, .inl (g.2 0, 497, .inl (cpF 497 f52 f55))), (q51, .inl (g.2 0, 497, .inl (upd (upd (upd f52 393 x2) 394 7) 395 x3))), (q1, .inr (12, [.ref q51, w7, .ref q54, w9, .ref q74, .int 0, .int 0, .ref q56, .ref q57, w15, w16, w17, w18, w19, w20, w21, w22, w23, w24, w25, w26, w27, w28, w29, w30, w31, w32, w33, w34, w35, w36, w37, w38, w39, w40, w41, w42]))]) hx hb hE hP hD hS 4 rfl 395 (x_in (by decide)) (by decide) dX10_addClip_139 rfl (fun H locs hP hD hS => ?_)
  refine lv_aload_n hx hb dX10_addClip_140 rfl (lv_at hl 2 rfl) ?_
  refine gf_RX10_9 hx hb hown hE hP 5 rfl rfl dX10_addClip_141 ?_
  refine lv_iload hx hb dX10_addClip_144 (lv_at hl 0 rfl) ?_
  refine lv_iconst (v := 3) hx hb dX10_addClip_146 (by decide) ?_
  refine x_iadd (v := 396) hx hb dX10_addClip_147 (by decide) ?_
  refine lv_iload hx hb dX10_addClip_148 (lv_at hl 6 rfl) ?_
  refine x_iast (ws' := [(q74, .inl (g.2 0, 3976, .inl f55)), (q57, .inl (g.2 0, 8, .inl f55)), (q56, .inl (g.2 0, 8, .inl f55)), (q54, .inl (g.2 0, 497, .inl (cpF 497 f52 f55))), (q51, .inl (g.2 0, 497, .inl (upd (upd (upd (upd f52 393 x2) 394 7) 395 x3) 396 x4))), (q1, .inr (12, [.ref q51, w7, .ref q54, w9, .ref q74, .int 0, .int 0, .ref q56, .ref q57, w15, w16, w17, w18, w19, w20, w21, w22, w23, w24, w25, w26, w27, w28, w29, w30, w31, w32, w33, w34, w35, w36, w37, w38, w39, w40, w41, w42]))]) hx hb hE hP hD hS 4 rfl 396 (x_in (by decide)) (by decide) dX10_addClip_150 rfl (fun H locs hP hD hS => ?_)
  refine lv_aload_n hx hb dX10_addClip_151 rfl (lv_at hl 2 rfl) ?_
  refine gf_RX10_9 hx hb hown hE hP 5 rfl rfl dX10_addClip_152 ?_
  refine lv_iload hx hb dX10_addClip_155 (lv_at hl 0 rfl) ?_
  refine lv_iconst (v := 4) hx hb dX10_addClip_157 (by decide) ?_
  refine x_iadd (v := 397) hx hb dX10_addClip_158 (by decide) ?_
  refine lv_iload hx hb dX10_addClip_159 (lv_at hl 7 rfl) ?_
  refine x_iast (ws' := [(q74, .inl (g.2 0, 3976, .inl f55)), (q57, .inl (g.2 0, 8, .inl f55)), (q56, .inl (g.2 0, 8, .inl f55)), (q54, .inl (g.2 0, 497, .inl (cpF 497 f52 f55))), (q51, .inl (g.2 0, 497, .inl (upd (upd (upd (upd (upd f52 393 x2) 394 7) 395 x3) 396 x4) 397 x5))), (q1, .inr (12, [.ref q51, w7, .ref q54, w9, .ref q74, .int 0, .int 0, .ref q56, .ref q57, w15, w16, w17, w18, w19, w20, w21, w22, w23, w24, w25, w26, w27, w28, w29, w30, w31, w32, w33, w34, w35, w36, w37, w38, w39, w40, w41, w42]))]) hx hb hE hP hD hS 4 rfl 397 (x_in (by decide)) (by decide) dX10_addClip_161 rfl (fun H locs hP hD hS => ?_)
  refine lv_aload_n hx hb dX10_addClip_162 rfl (lv_at hl 2 rfl) ?_
  refine gf_RX10_9 hx hb hown hE hP 5 rfl rfl dX10_addClip_163 ?_
  refine lv_sipush (v := 392) hx hb dX10_addClip_166 (by decide) ?_
  refine lv_dup2_11 hx hb dX10_addClip_169 rfl rfl ?_
  refine x_iald (v := 0) hx hb hE hP 4 rfl 392 (x_in (by decide)) (by decide) ((pk_un (by decide)).trans ((pk_un (by decide)).trans ((pk_un (by decide)).trans ((pk_un (by decide)).trans ((pk_un (by decide)).trans hf53))))) dX10_addClip_170 ?_
  refine lv_iconst (v := 1) hx hb dX10_addClip_171 (by decide) ?_
  refine x_iadd (v := 1) hx hb dX10_addClip_172 (by decide) ?_
  refine x_iast (ws' := [(q74, .inl (g.2 0, 3976, .inl f55)), (q57, .inl (g.2 0, 8, .inl f55)), (q56, .inl (g.2 0, 8, .inl f55)), (q54, .inl (g.2 0, 497, .inl (cpF 497 f52 f55))), (q51, .inl (g.2 0, 497, .inl (upd (upd (upd (upd (upd (upd f52 393 x2) 394 7) 395 x3) 396 x4) 397 x5) 392 1))), (q1, .inr (12, [.ref q51, w7, .ref q54, w9, .ref q74, .int 0, .int 0, .ref q56, .ref q57, w15, w16, w17, w18, w19, w20, w21, w22, w23, w24, w25, w26, w27, w28, w29, w30, w31, w32, w33, w34, w35, w36, w37, w38, w39, w40, w41, w42]))]) hx hb hE hP hD hS 4 rfl 392 (x_in (by decide)) (by decide) dX10_addClip_173 rfl (fun H locs hP hD hS => ?_)
  refine lv_aload_n hx hb dX10_addClip_174 rfl (lv_at hl 2 rfl) ?_
  refine g_i (wr := [(q74, .inl (g.2 0, 3976, .inl f55)), (q54, .inl (g.2 0, 497, .inl (cpF 497 f52 f55)))]) (rV (rest := []) hx hb hml hown hE hP hD 5 rfl rfl (c1577_X10_isTooGreat l g q1 q51 q56 q57 x3 w7 (.ref q54) w9 (.ref q74) (.int 0) (.int 0) w15 w16 w17 w18 w19 w20 w21 w22 w23 w24 w25 w26 w27 w28 w29 w30 w31 w32 w33 w34 w35 w36 w37 w38 w39 w40 w41 w42 (upd (upd (upd (upd (upd (upd f52 393 x2) 394 7) 395 x3) 396 x4) 397 x5) 392 1) f55 (((pk_un (by decide)).trans ((pk_un (by decide)).trans ((pk_un (by decide)).trans ((pk_un (by decide)).trans ((pk_un (by decide)).trans ((pk_un (by decide)).trans hf58))))))) (((pk_un (by decide)).trans ((pk_un (by decide)).trans ((pk_un (by decide)).trans ((pk_un (by decide)).trans ((pk_un (by decide)).trans ((pk_un (by decide)).trans hf59))))))) (((pk_un (by decide)).trans ((pk_un (by decide)).trans ((pk_un (by decide)).trans ((pk_un (by decide)).trans ((pk_un (by decide)).trans ((pk_un (by decide)).trans hf60))))))) (((pk_un (by decide)).trans ((pk_un (by decide)).trans ((pk_un (by decide)).trans ((pk_un (by decide)).trans ((pk_un (by decide)).trans ((pk_un (by decide)).trans hf61))))))) (((pk_un (by decide)).trans ((pk_un (by decide)).trans ((pk_un (by decide)).trans ((pk_un (by decide)).trans ((pk_un (by decide)).trans ((pk_un (by decide)).trans hf62))))))) (((pk_un (by decide)).trans ((pk_un (by decide)).trans ((pk_un (by decide)).trans ((pk_un (by decide)).trans ((pk_un (by decide)).trans ((pk_un (by decide)).trans hf63))))))) (((pk_un (by decide)).trans ((pk_un (by decide)).trans ((pk_un (by decide)).trans ((pk_un (by decide)).trans ((pk_un (by decide)).trans ((pk_un (by decide)).trans hf64))))))) (((pk_un (by decide)).trans ((pk_un (by decide)).trans ((pk_un (by decide)).trans ((pk_un (by decide)).trans ((pk_un (by decide)).trans ((pk_un (by decide)).trans hf65))))))) (hf66) (hf67) (hf68) (hf69) (hf70) (hf71) (hf72) (hf73) (pk_us) (((pk_un (by decide)).trans ((pk_un (by decide)).trans ((pk_un (by decide)).trans pk_us)))) (((pk_un (by decide)).trans ((pk_un (by decide)).trans ((pk_un (by decide)).trans ((pk_un (by decide)).trans pk_us))))) H.size) (kV_X10_isTooGreat hE (e1448 hE) rfl rfl ⟨(Nat.le_of_ble_eq_true rfl), (Nat.le_of_ble_eq_true rfl)⟩) [1, 2, 4, 5] rfl (by decide) rfl hl.1 rfl (lv_room (Nat.le_of_ble_eq_true rfl)) dX10_addClip_175 ⟨(Nat.le_of_ble_eq_true rfl), (Nat.le_of_ble_eq_true rfl)⟩) hP hD hS hA [1, 2, 4, 5] [0, 3] rfl rfl (by decide) (by decide) (fun u7 H locs hP hD hS => ?_)
  have hP : va_P g.1 vwCl [(q74, .inl (g.2 0, 3976, .inl f55)), (q54, .inl (g.2 0, 497, .inl (cpF 497 f52 f55))), (q57, .inl (g.2 0, 8, .inl f55)), (q56, .inl (g.2 0, 8, .inl f55)), (q51, .inl (g.2 0, 497, .inl (upd (upd (upd (upd (upd (upd f52 393 x2) 394 7) 395 x3) 396 x4) 397 x5) 392 1))), (q1, .inr (12, [.ref q51, w7, .ref q54, w9, .ref q74, .int 0, .int 0, .ref q56, .ref q57, w15, w16, w17, w18, w19, w20, w21, w22, w23, w24, w25, w26, w27, w28, w29, w30, w31, w32, w33, w34, w35, w36, w37, w38, w39, w40, w41, w42]))] H := hP
  have hD : va_D A [(q74, .inl (g.2 0, 3976, .inl f55)), (q54, .inl (g.2 0, 497, .inl (cpF 497 f52 f55))), (q57, .inl (g.2 0, 8, .inl f55)), (q56, .inl (g.2 0, 8, .inl f55)), (q51, .inl (g.2 0, 497, .inl (upd (upd (upd (upd (upd (upd f52 393 x2) 394 7) 395 x3) 396 x4) 397 x5) 392 1))), (q1, .inr (12, [.ref q51, w7, .ref q54, w9, .ref q74, .int 0, .int 0, .ref q56, .ref q57, w15, w16, w17, w18, w19, w20, w21, w22, w23, w24, w25, w26, w27, w28, w29, w30, w31, w32, w33, w34, w35, w36, w37, w38, w39, w40, w41, w42]))] := hD
  refine lv_if_eq (tgt := 191) hx hb dX10_addClip_178 (by decide) (fun _ => ?_) (fun h => absurd (by decide) h)
  refine lv_aload_n hx hb dX10_addClip_191 rfl (lv_at hl 2 rfl) ?_
  refine g_v (wr := [(q57, .inl (g.2 0, 8, .inl f55)), (q56, .inl (g.2 0, 8, .inl f55)), (q51, .inl (g.2 0, 497, .inl (upd (upd (upd (upd (upd (upd f52 393 x2) 394 7) 395 x3) 396 x4) 397 x5) 392 1)))]) (rV (rest := []) hx hb hml hown hE hP hD 5 rfl rfl (c220_X10_keep l g q1 q74 q54 (.ref q51) w7 w9 (.int 0) (.ref q56) (.ref q57) w15 w16 w17 w18 w19 w20 w21 w22 w23 w24 w25 w26 w27 w28 w29 w30 w31 w32 w33 w34 w35 w36 w37 w38 w39 w40 w41 w42 (cpF 497 f52 f55) f55 H.size) (kV_X10_keep hE (e1478 hE) rfl rfl ⟨(Nat.le_of_ble_eq_true rfl), (Nat.le_of_ble_eq_true rfl)⟩) [0, 1, 5] rfl (by decide) rfl hl.1 rfl (lv_room (Nat.le_of_ble_eq_true rfl)) dX10_addClip_192 ⟨(Nat.le_of_ble_eq_true rfl), (Nat.le_of_ble_eq_true rfl)⟩) hP hD hS hA [0, 1, 5] [2, 3, 4] rfl rfl (by decide) (by decide) (fun u8 H locs hP hD hS => ?_)
  have hP : va_P g.1 vwCl [(q57, .inl (g.2 0, 8, .inl f55)), (q56, .inl (g.2 0, 8, .inl f55)), (q51, .inl (g.2 0, 497, .inl (upd (upd (upd (upd (upd (upd f52 393 x2) 394 7) 395 x3) 396 x4) 397 x5) 392 1))), (q74, .inl (g.2 0, 3976, .inl (cpF 497 (cpF 497 f52 f55) f55))), (q54, .inl (g.2 0, 497, .inl (cpF 497 f52 f55))), (q1, .inr (12, [.ref q51, w7, .ref q54, w9, .ref q74, .int 1, .int 0, .ref q56, .ref q57, w15, w16, w17, w18, w19, w20, w21, w22, w23, w24, w25, w26, w27, w28, w29, w30, w31, w32, w33, w34, w35, w36, w37, w38, w39, w40, w41, w42]))] H := hP
  have hD : va_D A [(q57, .inl (g.2 0, 8, .inl f55)), (q56, .inl (g.2 0, 8, .inl f55)), (q51, .inl (g.2 0, 497, .inl (upd (upd (upd (upd (upd (upd f52 393 x2) 394 7) 395 x3) 396 x4) 397 x5) 392 1))), (q74, .inl (g.2 0, 3976, .inl (cpF 497 (cpF 497 f52 f55) f55))), (q54, .inl (g.2 0, 497, .inl (cpF 497 f52 f55))), (q1, .inr (12, [.ref q51, w7, .ref q54, w9, .ref q74, .int 1, .int 0, .ref q56, .ref q57, w15, w16, w17, w18, w19, w20, w21, w22, w23, w24, w25, w26, w27, w28, w29, w30, w31, w32, w33, w34, w35, w36, w37, w38, w39, w40, w41, w42]))] := hD
  refine lv_aload_n hx hb dX10_addClip_195 rfl (lv_at hl 2 rfl) ?_
  refine gf_RX10_9 hx hb hown hE hP 5 rfl rfl dX10_addClip_196 ?_
  refine lv_sipush (v := 392) hx hb dX10_addClip_199 (by decide) ?_
  refine x_iald (v := 1) hx hb hE hP 2 rfl 392 (x_in (by decide)) (by decide) pk_us dX10_addClip_202 ?_
  refine lv_iconst (v := 1) hx hb dX10_addClip_203 (by decide) ?_
  refine x_isub (v := 0) hx hb dX10_addClip_204 (by decide) ?_
  exact x_zret hx hb hr rfl rfl hlocks hP hD hS hAe hsz (Nat.le_of_ble_eq_true rfl) (Nat.le_of_ble_eq_true rfl) (fun _ => 0) [5] (by decide) rfl dX10_addClip_205

set_option maxHeartbeats 4000000 in
set_option maxRecDepth 100000 in
theorem c1579_X9_addClip (l : Launch) (g : gG) (hlx : l.stackTraces = false) (q1 : Nat) (x2 x3 x4 x5 x6 : Int32) (h7 : (0 : Int32) ≤ x2) (h8 : x2 ≤ 9999) (h9 : (0 : Int32) ≤ x3) (h10 : x3 ≤ 7) (h11 : (1 : Int32) ≤ x4) (h12 : x4 ≤ 9) (h13 : ((-50) : Int32) ≤ x5) (h14 : x5 ≤ 50) (h15 : (0 : Int32) ≤ x6) (h16 : (3 : Int32) < x6) (sz : Nat) : vx_Met l yX9_addClip [Cond.code yX9_addClip cX9_addClip 7 (some .int)] ({ frames := 7, cells := 1, slots := 6, locals := 122 } : Room) (va_Pc [.ref q1, .int x2, .int x3, .int x4, .int x5, .int x6] (PZ g sz [])) NI (XW g [] sz "java/lang/IllegalArgumentException" []) 1 6 (va_A [] sz) := by
  refine ofX (by decide) (Nat.le_of_ble_eq_true rfl) rfl ?_
  intro p e s m args below meth c A ls hAe hsz hx hb hml hr hlocks hin hown hE hP hD hA hS hl hex hz
  have hown : s.vm.findClass RX9 = some m.cls := hown
  refine lv_iload_n hx hb dX9_addClip_0 rfl (lv_at hl 1 rfl) ?_
  refine lv_iconst (v := 0) hx hb dX9_addClip_1 (by decide) ?_
  refine lv_sipush (v := 9999) hx hb dX9_addClip_2 (by decide) ?_
  refine g0_v (rS (rest := []) hx hb hml hown hE hP hD (c1477_X9_requireRange l g x2 h7 h8 s.heap.size) (kS_X9_requireRange hE (e636 hE) rfl rfl ⟨(Nat.le_of_ble_eq_true rfl), (Nat.le_of_ble_eq_true rfl)⟩) [] rfl (by decide) rfl hl.1 rfl (lv_room (Nat.le_of_ble_eq_true rfl)) dX9_addClip_5 ⟨(Nat.le_of_ble_eq_true rfl), (Nat.le_of_ble_eq_true rfl)⟩) hP hD hS hA (fun u9 H locs hP hS => ?_)
  refine lv_iload_n hx hb dX9_addClip_8 rfl (lv_at hl 2 rfl) ?_
  refine lv_iconst (v := 0) hx hb dX9_addClip_9 (by decide) ?_
  refine lv_bipush (v := 7) hx hb dX9_addClip_10 (by decide) ?_
  refine g0_v (rS (rest := []) hx hb hml hown hE hP hD (c1482_X9_requireRange l g x3 h9 h10 H.size) (kS_X9_requireRange hE (e636 hE) rfl rfl ⟨(Nat.le_of_ble_eq_true rfl), (Nat.le_of_ble_eq_true rfl)⟩) [] rfl (by decide) rfl hl.1 rfl (lv_room (Nat.le_of_ble_eq_true rfl)) dX9_addClip_12 ⟨(Nat.le_of_ble_eq_true rfl), (Nat.le_of_ble_eq_true rfl)⟩) hP hD hS hA (fun u9 H locs hP hS => ?_)
  refine lv_iload_n hx hb dX9_addClip_15 rfl (lv_at hl 3 rfl) ?_
  refine lv_iconst (v := 1) hx hb dX9_addClip_16 (by decide) ?_
  refine lv_bipush (v := 9) hx hb dX9_addClip_17 (by decide) ?_
  refine g0_v (rS (rest := []) hx hb hml hown hE hP hD (c117_X9_requireRange l g x4 h11 h12 H.size) (kS_X9_requireRange hE (e636 hE) rfl rfl ⟨(Nat.le_of_ble_eq_true rfl), (Nat.le_of_ble_eq_true rfl)⟩) [] rfl (by decide) rfl hl.1 rfl (lv_room (Nat.le_of_ble_eq_true rfl)) dX9_addClip_19 ⟨(Nat.le_of_ble_eq_true rfl), (Nat.le_of_ble_eq_true rfl)⟩) hP hD hS hA (fun u9 H locs hP hS => ?_)
  refine lv_iload hx hb dX9_addClip_22 (lv_at hl 4 rfl) ?_
  refine lv_bipush (v := (-50)) hx hb dX9_addClip_24 (by decide) ?_
  refine lv_bipush (v := 50) hx hb dX9_addClip_26 (by decide) ?_
  refine g0_v (rS (rest := []) hx hb hml hown hE hP hD (c1491_X9_requireRange l g x5 h13 h14 H.size) (kS_X9_requireRange hE (e636 hE) rfl rfl ⟨(Nat.le_of_ble_eq_true rfl), (Nat.le_of_ble_eq_true rfl)⟩) [] rfl (by decide) rfl hl.1 rfl (lv_room (Nat.le_of_ble_eq_true rfl)) dX9_addClip_28 ⟨(Nat.le_of_ble_eq_true rfl), (Nat.le_of_ble_eq_true rfl)⟩) hP hD hS hA (fun u9 H locs hP hS => ?_)
  refine lv_iload hx hb dX9_addClip_31 (lv_at hl 5 rfl) ?_
  refine lv_iconst (v := 0) hx hb dX9_addClip_33 (by decide) ?_
  refine lv_iconst (v := 3) hx hb dX9_addClip_34 (by decide) ?_
  refine gx_v (wr := []) (rSx (rest := []) hx hb hml hown hE hP hD hS hA hz (c880_X9_requireRange l g hlx x6 h15 h16 H.size) (kS_X9_requireRange hE (e636 hE) rfl rfl ⟨(Nat.le_of_ble_eq_true rfl), (Nat.le_of_ble_eq_true rfl)⟩) [] rfl (by decide) rfl hl.1 rfl (lv_room (Nat.le_of_ble_eq_true rfl)) dX9_addClip_35 ⟨(Nat.le_of_ble_eq_true rfl), (Nat.le_of_ble_eq_true rfl)⟩) hP hD hS hA [] [] rfl rfl (by decide) (by decide) (fun ce9 q9 H locs hP hD hS hq1 hq2 hq3 => ?_)
  exact x_out hex hlocks hq1 hq2 hq3 hP hD hS hAe hsz (Nat.le_of_ble_eq_true rfl) (Nat.le_of_ble_eq_true rfl) [] (by decide) rfl

set_option maxHeartbeats 4000000 in
set_option maxRecDepth 100000 in
theorem c1580_L_addClip (l : Launch) (g : gG) (hlx : l.stackTraces = false) (q1 q7 : Nat) (x2 x3 x4 x5 x6 : Int32) (w18 w19 w20 w21 w22 w23 w24 w25 w26 w27 w28 : Value) (h8 : (0 : Int32) ≤ x2) (h9 : x2 ≤ 9999) (h10 : (0 : Int32) ≤ x3) (h11 : x3 ≤ 7) (h12 : (1 : Int32) ≤ x4) (h13 : x4 ≤ 9) (h14 : ((-50) : Int32) ≤ x5) (h15 : x5 ≤ 50) (h16 : (0 : Int32) ≤ x6) (h17 : (3 : Int32) < x6) (sz : Nat) : Met l yL_addClip [Cond.codeWith yL_addClip cL_addClip 8 (some .int) [(0, 16, 19, 15), (0, 16, 23, 17)]] ({ frames := 8, cells := 1, slots := 6, locals := 148 } : Room) (va_Pc [.ref q1, .int x2, .int x3, .int x4, .int x5, .int x6, .ref q7] (PZ g sz [(q1, .inr (11, [w18, w19, w20, w21, w22, w23, w24, w25, w26, w27, w28]))])) (QI g [(q1, .inr (11, [w18, w19, w20, w21, w22, w23, w24, w25, w26, w27, w28]))] sz 1 (fun _ => [])) 1 6 (va_A [(q1, .inr (11, [w18, w19, w20, w21, w22, w23, w24, w25, w26, w27, w28]))] sz) := by
  refine ofH (by decide) (Nat.le_of_ble_eq_true rfl) rfl ?_
  intro p e s m args below meth c A ls hAe hsz hx hb hml hr hlocks hin hown hE hP hD hA hS hl htb hz
  have hown : s.vm.findClass RL = some m.cls := hown
  refine lv_aload hx hb dL_addClip_0 (lv_at hl 6 rfl) ?_
  refine lv_iconst (v := 0) hx hb dL_addClip_2 (by decide) ?_
  refine lv_aload_n hx hb dL_addClip_3 rfl (lv_at hl 0 rfl) ?_
  refine lv_iload_n hx hb dL_addClip_4 rfl (lv_at hl 1 rfl) ?_
  refine lv_iload_n hx hb dL_addClip_5 rfl (lv_at hl 2 rfl) ?_
  refine lv_iload_n hx hb dL_addClip_6 rfl (lv_at hl 3 rfl) ?_
  refine lv_iload hx hb dL_addClip_7 (lv_at hl 4 rfl) ?_
  refine lv_iload hx hb dL_addClip_9 (lv_at hl 5 rfl) ?_
  refine gx_i (wr := [(q1, .inr (11, [w18, w19, w20, w21, w22, w23, w24, w25, w26, w27, w28]))]) (rVx (rest := [.int 0, .ref q7]) hx hb hml hown hE hP hD hS hA hz 0 rfl rfl (c1579_X9_addClip l g hlx q1 x2 x3 x4 x5 x6 h8 h9 h10 h11 h12 h13 h14 h15 h16 h17 s.heap.size) (kV_X9_addClip hE (e803 hE) rfl rfl ⟨(Nat.le_of_ble_eq_true rfl), (Nat.le_of_ble_eq_true rfl)⟩) [] rfl (by decide) rfl hl.1 rfl (lv_room (Nat.le_of_ble_eq_true rfl)) dL_addClip_11 ⟨(Nat.le_of_ble_eq_true rfl), (Nat.le_of_ble_eq_true rfl)⟩) hP hD hS hA [] [0] rfl rfl (by decide) (by decide) (fun ce9 q9 H locs hP hD hS hq1 hq2 hq3 => ?_)
  have hP : va_P g.1 vwCl [(q1, .inr (11, [w18, w19, w20, w21, w22, w23, w24, w25, w26, w27, w28]))] H := hP
  have hD : va_D A [(q1, .inr (11, [w18, w19, w20, w21, w22, w23, w24, w25, w26, w27, w28]))] := hD
  refine x_catch (name := "java/lang/IllegalArgumentException") (hh := [(0, 16, 19, 15), (0, 16, 23, 17)]) (tgt := 19) hown htb [] ⟨0, 16, 19, 15⟩ [⟨0, 16, 23, 17⟩] rfl (fun _ h => nomatch h) rfl (by decide) (e611 hE) (e641 hE) hq1 hq2 hq3 rfl ?_
  refine lv_astore (lv' := [(7, .ref q9), (0, .ref q1), (1, .int x2), (2, .int x3), (3, .int x4), (4, .int x5), (5, .int x6), (6, .ref q7)]) hx hb dL_addClip_19 hl (by decide) rfl (fun ls hl => ?_)
  refine lv_iconst (v := 1) hx hb dL_addClip_21 (by decide) ?_
  exact x_zret hx hb hr rfl rfl hlocks hP hD hS hAe hsz (Nat.le_of_ble_eq_true rfl) (Nat.le_of_ble_eq_true rfl) (fun _ => 0) [] (by decide) rfl dL_addClip_22

set_option maxHeartbeats 4000000 in
set_option maxRecDepth 100000 in
theorem c1581_X10_addClip (l : Launch) (g : gG) (q1 : Nat) (x2 x3 x4 x5 x6 : Int32) (w7 w8 w9 w10 w11 w12 w13 w14 w15 w16 w17 w18 w19 w20 w21 w22 w23 w24 w25 w26 w27 w28 w29 w30 w31 w32 w33 w34 w35 w36 w37 w38 w39 w40 w41 w42 w43 : Value) (h44 : (0 : Int32) ≤ x2) (h45 : x2 ≤ 9999) (h46 : (0 : Int32) ≤ x3) (h47 : x3 ≤ 7) (h48 : (1 : Int32) ≤ x4) (h49 : x4 ≤ 9) (h50 : ((-50) : Int32) ≤ x5) (h51 : x5 ≤ 50) (h52 : (0 : Int32) ≤ x6) (h53 : (3 : Int32) < x6) (sz : Nat) : Met l yX10_addClip [Cond.code yX10_addClip cX10_addClip 8 (some .int)] ({ frames := 2, cells := 0, slots := 0, locals := 42 } : Room) (va_Pc [.ref q1, .int x2, .int x3, .int x4, .int x5, .int x6] (PX g sz [(q1, .inr (12, [w7, w8, w9, w10, w11, w12, w13, w14, w15, w16, w17, w18, w19, w20, w21, w22, w23, w24, w25, w26, w27, w28, w29, w30, w31, w32, w33, w34, w35, w36, w37, w38, w39, w40, w41, w42, w43]))])) (QI g [(q1, .inr (12, [w7, w8, w9, w10, w11, w12, w13, w14, w15, w16, w17, w18, w19, w20, w21, w22, w23, w24, w25, w26, w27, w28, w29, w30, w31, w32, w33, w34, w35, w36, w37, w38, w39, w40, w41, w42, w43]))] sz 0 (fun _ => [(q1, .inr (12, [w7, w8, w9, w10, w11, w12, .int 1, w14, w15, w16, w17, w18, w19, w20, w21, w22, w23, w24, w25, w26, w27, w28, w29, w30, w31, w32, w33, w34, w35, w36, w37, w38, w39, w40, w41, w42, w43]))])) 0 0 (va_A [(q1, .inr (12, [w7, w8, w9, w10, w11, w12, w13, w14, w15, w16, w17, w18, w19, w20, w21, w22, w23, w24, w25, w26, w27, w28, w29, w30, w31, w32, w33, w34, w35, w36, w37, w38, w39, w40, w41, w42, w43]))] sz) := by
  refine ofN (by decide) (Nat.le_of_ble_eq_true rfl) rfl ?_
  intro p e s m args below meth c A ls hAe hsz hx hb hml hr hlocks hin hown hE hP hD hA hS hl
  have hown : s.vm.findClass RX10 = some m.cls := hown
  refine lv_aload_n hx hb dX10_addClip_0 rfl (lv_at hl 0 rfl) ?_
  refine lv_iconst (v := 0) hx hb dX10_addClip_1 (by decide) ?_
  refine pf_RX10_86 (ws' := [(q1, .inr (12, [w7, w8, w9, w10, w11, w12, .int 0, w14, w15, w16, w17, w18, w19, w20, w21, w22, w23, w24, w25, w26, w27, w28, w29, w30, w31, w32, w33, w34, w35, w36, w37, w38, w39, w40, w41, w42, w43]))]) hx hb hown hE hP hD hS 0 rfl rfl rfl (Nat.le_of_ble_eq_true rfl) dX10_addClip_2 rfl (fun H locs hP hD hS => ?_)
  refine lv_iload_n hx hb dX10_addClip_5 rfl (lv_at hl 1 rfl) ?_
  refine lv_iconst (v := 0) hx hb dX10_addClip_6 (by decide) ?_
  refine lv_sipush (v := 9999) hx hb dX10_addClip_7 (by decide) ?_
  refine g0_i (rS (rest := []) hx hb hml hown hE hP hD (c1480_X10_in l g x2 h44 h45 H.size) (kS_X10_in hE (e1431 hE) rfl rfl ⟨(Nat.le_of_ble_eq_true rfl), (Nat.le_of_ble_eq_true rfl)⟩) [] rfl (by decide) rfl hl.1 rfl (lv_room (Nat.le_of_ble_eq_true rfl)) dX10_addClip_10 ⟨(Nat.le_of_ble_eq_true rfl), (Nat.le_of_ble_eq_true rfl)⟩) hP hD hS hA (fun u9 H locs hP hS => ?_)
  refine lv_if_eq (tgt := 59) hx hb dX10_addClip_13 (by decide) (fun h => absurd h (by decide)) (fun _ => ?_)
  refine lv_iload_n hx hb dX10_addClip_16 rfl (lv_at hl 2 rfl) ?_
  refine g0_i (rS (rest := []) hx hb hml hown hE hP hD (c94_X10_isPattern l g x3 h46 h47 H.size) (kS_X10_isPattern hE (e1428 hE) rfl rfl ⟨(Nat.le_of_ble_eq_true rfl), (Nat.le_of_ble_eq_true rfl)⟩) [] rfl (by decide) rfl hl.1 rfl (lv_room (Nat.le_of_ble_eq_true rfl)) dX10_addClip_17 ⟨(Nat.le_of_ble_eq_true rfl), (Nat.le_of_ble_eq_true rfl)⟩) hP hD hS hA (fun u9 H locs hP hS => ?_)
  refine lv_if_eq (tgt := 59) hx hb dX10_addClip_20 (by decide) (fun h => absurd h (by decide)) (fun _ => ?_)
  refine lv_iload_n hx hb dX10_addClip_23 rfl (lv_at hl 3 rfl) ?_
  refine lv_iconst (v := 1) hx hb dX10_addClip_24 (by decide) ?_
  refine lv_bipush (v := 9) hx hb dX10_addClip_25 (by decide) ?_
  refine g0_i (rS (rest := []) hx hb hml hown hE hP hD (c196_X10_in l g x4 h48 h49 H.size) (kS_X10_in hE (e1431 hE) rfl rfl ⟨(Nat.le_of_ble_eq_true rfl), (Nat.le_of_ble_eq_true rfl)⟩) [] rfl (by decide) rfl hl.1 rfl (lv_room (Nat.le_of_ble_eq_true rfl)) dX10_addClip_27 ⟨(Nat.le_of_ble_eq_true rfl), (Nat.le_of_ble_eq_true rfl)⟩) hP hD hS hA (fun u9 H locs hP hS => ?_)
  refine lv_if_eq (tgt := 59) hx hb dX10_addClip_30 (by decide) (fun h => absurd h (by decide)) (fun _ => ?_)
  refine lv_iload hx hb dX10_addClip_33 (lv_at hl 4 rfl) ?_
  refine lv_bipush (v := (-50)) hx hb dX10_addClip_35 (by decide) ?_
  refine lv_bipush (v := 50) hx hb dX10_addClip_37 (by decide) ?_
  refine g0_i (rS (rest := []) hx hb hml hown hE hP hD (c1494_X10_in l g x5 h50 h51 H.size) (kS_X10_in hE (e1431 hE) rfl rfl ⟨(Nat.le_of_ble_eq_true rfl), (Nat.le_of_ble_eq_true rfl)⟩) [] rfl (by decide) rfl hl.1 rfl (lv_room (Nat.le_of_ble_eq_true rfl)) dX10_addClip_39 ⟨(Nat.le_of_ble_eq_true rfl), (Nat.le_of_ble_eq_true rfl)⟩) hP hD hS hA (fun u9 H locs hP hS => ?_)
  refine lv_if_eq (tgt := 59) hx hb dX10_addClip_42 (by decide) (fun h => absurd h (by decide)) (fun _ => ?_)
  refine lv_iload hx hb dX10_addClip_45 (lv_at hl 5 rfl) ?_
  refine lv_iconst (v := 0) hx hb dX10_addClip_47 (by decide) ?_
  refine lv_iconst (v := 3) hx hb dX10_addClip_48 (by decide) ?_
  refine g0_i (rS (rest := []) hx hb hml hown hE hP hD (c883_X10_in l g x6 h52 h53 H.size) (kS_X10_in hE (e1431 hE) rfl rfl ⟨(Nat.le_of_ble_eq_true rfl), (Nat.le_of_ble_eq_true rfl)⟩) [] rfl (by decide) rfl hl.1 rfl (lv_room (Nat.le_of_ble_eq_true rfl)) dX10_addClip_49 ⟨(Nat.le_of_ble_eq_true rfl), (Nat.le_of_ble_eq_true rfl)⟩) hP hD hS hA (fun u9 H locs hP hS => ?_)
  refine lv_if_eq (tgt := 59) hx hb dX10_addClip_52 (by decide) (fun _ => ?_) (fun h => absurd (by decide) h)
  refine lv_iconst (v := 0) hx hb dX10_addClip_59 (by decide) ?_
  refine lv_istore (lv' := [(6, .int 0), (0, .ref q1), (1, .int x2), (2, .int x3), (3, .int x4), (4, .int x5), (5, .int x6)]) hx hb dX10_addClip_60 hl (by decide) rfl (fun ls hl => ?_)
  refine lv_iload hx hb dX10_addClip_62 (lv_at hl 0 rfl) ?_
  refine lv_if_ne (tgt := 73) hx hb dX10_addClip_64 (by decide) (fun h => absurd h (by decide)) (fun _ => ?_)
  refine lv_aload_n hx hb dX10_addClip_67 rfl (lv_at hl 1 rfl) ?_
  refine lv_iconst (v := 1) hx hb dX10_addClip_68 (by decide) ?_
  refine g_i (wr := []) (rV (rest := []) hx hb hml hown hE hP hD 0 rfl rfl (c1475_X10_refuse l g q1 w7 w8 w9 w10 w11 w12 (.int 0) w14 w15 w16 w17 w18 w19 w20 w21 w22 w23 w24 w25 w26 w27 w28 w29 w30 w31 w32 w33 w34 w35 w36 w37 w38 w39 w40 w41 w42 w43 H.size) (kV_X10_refuse hE (e1474 hE) rfl rfl ⟨(Nat.le_of_ble_eq_true rfl), (Nat.le_of_ble_eq_true rfl)⟩) [0] rfl (by decide) rfl hl.1 rfl (lv_room (Nat.le_of_ble_eq_true rfl)) dX10_addClip_69 ⟨(Nat.le_of_ble_eq_true rfl), (Nat.le_of_ble_eq_true rfl)⟩) hP hD hS hA [0] [] rfl rfl (by decide) (by decide) (fun u6 H locs hP hD hS => ?_)
  have hP : va_P g.1 vwCl [(q1, .inr (12, [w7, w8, w9, w10, w11, w12, .int 1, w14, w15, w16, w17, w18, w19, w20, w21, w22, w23, w24, w25, w26, w27, w28, w29, w30, w31, w32, w33, w34, w35, w36, w37, w38, w39, w40, w41, w42, w43]))] H := hP
  have hD : va_D A [(q1, .inr (12, [w7, w8, w9, w10, w11, w12, .int 1, w14, w15, w16, w17, w18, w19, w20, w21, w22, w23, w24, w25, w26, w27, w28, w29, w30, w31, w32, w33, w34, w35, w36, w37, w38, w39, w40, w41, w42, w43]))] := hD
  exact x_zret hx hb hr rfl rfl hlocks hP hD hS hAe hsz (Nat.le_of_ble_eq_true rfl) (Nat.le_of_ble_eq_true rfl) (fun _ => 0) [0] (by decide) rfl dX10_addClip_72

set_option maxHeartbeats 4000000 in
set_option maxRecDepth 100000 in
theorem c1582_X9_requireRange (l : Launch) (g : gG) (hlx : l.stackTraces = false) (x1 : Int32) (h2 : ((-50) : Int32) ≤ x1) (h3 : (50 : Int32) < x1) (sz : Nat) : vx_Met l yX9_requireRange [Cond.code yX9_requireRange cX9_requireRange 3 none] ({ frames := 6, cells := 1, slots := 6, locals := 100 } : Room) (va_Pc [.int x1, .int (-50), .int 50] (PZ g sz [])) NV (XW g [] sz "java/lang/IllegalArgumentException" []) 1 6 (va_A [] sz) := by
  refine ofX (by decide) (Nat.le_of_ble_eq_true rfl) rfl ?_
  intro p e s m args below meth c A ls hAe hsz hx hb hml hr hlocks hin hown hE hP hD hA hS hl hex hz
  have hown : s.vm.findClass RX9 = some m.cls := hown
  refine lv_iload_n hx hb dX9_requireRange_0 rfl (lv_at hl 0 rfl) ?_
  refine lv_iload_n hx hb dX9_requireRange_1 rfl (lv_at hl 1 rfl) ?_
  refine lv_icmp_lt (tgt := 10) hx hb dX9_requireRange_2 (by decide) (fun h => absurd h (i_nlt h2)) (fun _ => ?_)
  refine lv_iload_n hx hb dX9_requireRange_5 rfl (lv_at hl 0 rfl) ?_
  refine lv_iload_n hx hb dX9_requireRange_6 rfl (lv_at hl 2 rfl) ?_
  refine lv_icmp_le (tgt := 21) hx hb dX9_requireRange_7 (by decide) (fun h => absurd h (i_nle h3)) (fun _ => ?_)
  exact x_throwW (text := "a number is out of range") (names := ["java/lang/RuntimeException", "java/lang/Exception"]) hx hb hlx hown hE (by decide) (by decide) (e639 hE) (e20 hE) (by decide +kernel) (th_215 hE) tg_215_211 hz (by rw [hml]; exact hl.1) dX9_requireRange_10 dX9_requireRange_13 dX9_requireRange_14 dX9_requireRange_17 dX9_requireRange_20 hex (Nat.le_of_ble_eq_true rfl) (Nat.le_of_ble_eq_true rfl) (Nat.le_of_ble_eq_true rfl) (Nat.le_of_ble_eq_true rfl) hlocks hP hD hS hAe hsz (Nat.le_of_ble_eq_true rfl) (Nat.le_of_ble_eq_true rfl) [] (by decide) rfl

set_option maxHeartbeats 4000000 in
set_option maxRecDepth 100000 in
theorem c1583_X9_addClip (l : Launch) (g : gG) (hlx : l.stackTraces = false) (q1 : Nat) (x2 x3 x4 x5 x6 : Int32) (h7 : (0 : Int32) ≤ x2) (h8 : x2 ≤ 9999) (h9 : (0 : Int32) ≤ x3) (h10 : x3 ≤ 7) (h11 : (1 : Int32) ≤ x4) (h12 : x4 ≤ 9) (h13 : ((-50) : Int32) ≤ x5) (h14 : (50 : Int32) < x5) (sz : Nat) : vx_Met l yX9_addClip [Cond.code yX9_addClip cX9_addClip 7 (some .int)] ({ frames := 7, cells := 1, slots := 6, locals := 122 } : Room) (va_Pc [.ref q1, .int x2, .int x3, .int x4, .int x5, .int x6] (PZ g sz [])) NI (XW g [] sz "java/lang/IllegalArgumentException" []) 1 6 (va_A [] sz) := by
  refine ofX (by decide) (Nat.le_of_ble_eq_true rfl) rfl ?_
  intro p e s m args below meth c A ls hAe hsz hx hb hml hr hlocks hin hown hE hP hD hA hS hl hex hz
  have hown : s.vm.findClass RX9 = some m.cls := hown
  refine lv_iload_n hx hb dX9_addClip_0 rfl (lv_at hl 1 rfl) ?_
  refine lv_iconst (v := 0) hx hb dX9_addClip_1 (by decide) ?_
  refine lv_sipush (v := 9999) hx hb dX9_addClip_2 (by decide) ?_
  refine g0_v (rS (rest := []) hx hb hml hown hE hP hD (c1477_X9_requireRange l g x2 h7 h8 s.heap.size) (kS_X9_requireRange hE (e636 hE) rfl rfl ⟨(Nat.le_of_ble_eq_true rfl), (Nat.le_of_ble_eq_true rfl)⟩) [] rfl (by decide) rfl hl.1 rfl (lv_room (Nat.le_of_ble_eq_true rfl)) dX9_addClip_5 ⟨(Nat.le_of_ble_eq_true rfl), (Nat.le_of_ble_eq_true rfl)⟩) hP hD hS hA (fun u9 H locs hP hS => ?_)
  refine lv_iload_n hx hb dX9_addClip_8 rfl (lv_at hl 2 rfl) ?_
  refine lv_iconst (v := 0) hx hb dX9_addClip_9 (by decide) ?_
  refine lv_bipush (v := 7) hx hb dX9_addClip_10 (by decide) ?_
  refine g0_v (rS (rest := []) hx hb hml hown hE hP hD (c1482_X9_requireRange l g x3 h9 h10 H.size) (kS_X9_requireRange hE (e636 hE) rfl rfl ⟨(Nat.le_of_ble_eq_true rfl), (Nat.le_of_ble_eq_true rfl)⟩) [] rfl (by decide) rfl hl.1 rfl (lv_room (Nat.le_of_ble_eq_true rfl)) dX9_addClip_12 ⟨(Nat.le_of_ble_eq_true rfl), (Nat.le_of_ble_eq_true rfl)⟩) hP hD hS hA (fun u9 H locs hP hS => ?_)
  refine lv_iload_n hx hb dX9_addClip_15 rfl (lv_at hl 3 rfl) ?_
  refine lv_iconst (v := 1) hx hb dX9_addClip_16 (by decide) ?_
  refine lv_bipush (v := 9) hx hb dX9_addClip_17 (by decide) ?_
  refine g0_v (rS (rest := []) hx hb hml hown hE hP hD (c117_X9_requireRange l g x4 h11 h12 H.size) (kS_X9_requireRange hE (e636 hE) rfl rfl ⟨(Nat.le_of_ble_eq_true rfl), (Nat.le_of_ble_eq_true rfl)⟩) [] rfl (by decide) rfl hl.1 rfl (lv_room (Nat.le_of_ble_eq_true rfl)) dX9_addClip_19 ⟨(Nat.le_of_ble_eq_true rfl), (Nat.le_of_ble_eq_true rfl)⟩) hP hD hS hA (fun u9 H locs hP hS => ?_)
  refine lv_iload hx hb dX9_addClip_22 (lv_at hl 4 rfl) ?_
  refine lv_bipush (v := (-50)) hx hb dX9_addClip_24 (by decide) ?_
  refine lv_bipush (v := 50) hx hb dX9_addClip_26 (by decide) ?_
  refine gx_v (wr := []) (rSx (rest := []) hx hb hml hown hE hP hD hS hA hz (c1582_X9_requireRange l g hlx x5 h13 h14 H.size) (kS_X9_requireRange hE (e636 hE) rfl rfl ⟨(Nat.le_of_ble_eq_true rfl), (Nat.le_of_ble_eq_true rfl)⟩) [] rfl (by decide) rfl hl.1 rfl (lv_room (Nat.le_of_ble_eq_true rfl)) dX9_addClip_28 ⟨(Nat.le_of_ble_eq_true rfl), (Nat.le_of_ble_eq_true rfl)⟩) hP hD hS hA [] [] rfl rfl (by decide) (by decide) (fun ce9 q9 H locs hP hD hS hq1 hq2 hq3 => ?_)
  exact x_out hex hlocks hq1 hq2 hq3 hP hD hS hAe hsz (Nat.le_of_ble_eq_true rfl) (Nat.le_of_ble_eq_true rfl) [] (by decide) rfl

set_option maxHeartbeats 4000000 in
set_option maxRecDepth 100000 in
theorem c1584_L_addClip (l : Launch) (g : gG) (hlx : l.stackTraces = false) (q1 q7 : Nat) (x2 x3 x4 x5 x6 : Int32) (w16 w17 w18 w19 w20 w21 w22 w23 w24 w25 w26 : Value) (h8 : (0 : Int32) ≤ x2) (h9 : x2 ≤ 9999) (h10 : (0 : Int32) ≤ x3) (h11 : x3 ≤ 7) (h12 : (1 : Int32) ≤ x4) (h13 : x4 ≤ 9) (h14 : ((-50) : Int32) ≤ x5) (h15 : (50 : Int32) < x5) (sz : Nat) : Met l yL_addClip [Cond.codeWith yL_addClip cL_addClip 8 (some .int) [(0, 16, 19, 15), (0, 16, 23, 17)]] ({ frames := 8, cells := 1, slots := 6, locals := 148 } : Room) (va_Pc [.ref q1, .int x2, .int x3, .int x4, .int x5, .int x6, .ref q7] (PZ g sz [(q1, .inr (11, [w16, w17, w18, w19, w20, w21, w22, w23, w24, w25, w26]))])) (QI g [(q1, .inr (11, [w16, w17, w18, w19, w20, w21, w22, w23, w24, w25, w26]))] sz 1 (fun _ => [])) 1 6 (va_A [(q1, .inr (11, [w16, w17, w18, w19, w20, w21, w22, w23, w24, w25, w26]))] sz) := by
  refine ofH (by decide) (Nat.le_of_ble_eq_true rfl) rfl ?_
  intro p e s m args below meth c A ls hAe hsz hx hb hml hr hlocks hin hown hE hP hD hA hS hl htb hz
  have hown : s.vm.findClass RL = some m.cls := hown
  refine lv_aload hx hb dL_addClip_0 (lv_at hl 6 rfl) ?_
  refine lv_iconst (v := 0) hx hb dL_addClip_2 (by decide) ?_
  refine lv_aload_n hx hb dL_addClip_3 rfl (lv_at hl 0 rfl) ?_
  refine lv_iload_n hx hb dL_addClip_4 rfl (lv_at hl 1 rfl) ?_
  refine lv_iload_n hx hb dL_addClip_5 rfl (lv_at hl 2 rfl) ?_
  refine lv_iload_n hx hb dL_addClip_6 rfl (lv_at hl 3 rfl) ?_
  refine lv_iload hx hb dL_addClip_7 (lv_at hl 4 rfl) ?_
  refine lv_iload hx hb dL_addClip_9 (lv_at hl 5 rfl) ?_
  refine gx_i (wr := [(q1, .inr (11, [w16, w17, w18, w19, w20, w21, w22, w23, w24, w25, w26]))]) (rVx (rest := [.int 0, .ref q7]) hx hb hml hown hE hP hD hS hA hz 0 rfl rfl (c1583_X9_addClip l g hlx q1 x2 x3 x4 x5 x6 h8 h9 h10 h11 h12 h13 h14 h15 s.heap.size) (kV_X9_addClip hE (e803 hE) rfl rfl ⟨(Nat.le_of_ble_eq_true rfl), (Nat.le_of_ble_eq_true rfl)⟩) [] rfl (by decide) rfl hl.1 rfl (lv_room (Nat.le_of_ble_eq_true rfl)) dL_addClip_11 ⟨(Nat.le_of_ble_eq_true rfl), (Nat.le_of_ble_eq_true rfl)⟩) hP hD hS hA [] [0] rfl rfl (by decide) (by decide) (fun ce9 q9 H locs hP hD hS hq1 hq2 hq3 => ?_)
  have hP : va_P g.1 vwCl [(q1, .inr (11, [w16, w17, w18, w19, w20, w21, w22, w23, w24, w25, w26]))] H := hP
  have hD : va_D A [(q1, .inr (11, [w16, w17, w18, w19, w20, w21, w22, w23, w24, w25, w26]))] := hD
  refine x_catch (name := "java/lang/IllegalArgumentException") (hh := [(0, 16, 19, 15), (0, 16, 23, 17)]) (tgt := 19) hown htb [] ⟨0, 16, 19, 15⟩ [⟨0, 16, 23, 17⟩] rfl (fun _ h => nomatch h) rfl (by decide) (e611 hE) (e641 hE) hq1 hq2 hq3 rfl ?_
  refine lv_astore (lv' := [(7, .ref q9), (0, .ref q1), (1, .int x2), (2, .int x3), (3, .int x4), (4, .int x5), (5, .int x6), (6, .ref q7)]) hx hb dL_addClip_19 hl (by decide) rfl (fun ls hl => ?_)
  refine lv_iconst (v := 1) hx hb dL_addClip_21 (by decide) ?_
  exact x_zret hx hb hr rfl rfl hlocks hP hD hS hAe hsz (Nat.le_of_ble_eq_true rfl) (Nat.le_of_ble_eq_true rfl) (fun _ => 0) [] (by decide) rfl dL_addClip_22

set_option maxHeartbeats 4000000 in
set_option maxRecDepth 100000 in
theorem c1585_X10_in (l : Launch) (g : gG) (x1 : Int32) (h2 : ((-50) : Int32) ≤ x1) (h3 : (50 : Int32) < x1) (sz : Nat) : Met l yX10_in [Cond.code yX10_in cX10_in 3 (some .boolean)] ({ frames := 0, cells := 0, slots := 0, locals := 0 } : Room) (va_Pc [.int x1, .int (-50), .int 50] (PX g sz [])) (QI g [] sz 0 (fun _ => [])) 0 0 (va_A [] sz) := by
  refine ofN (by decide) (Nat.le_of_ble_eq_true rfl) rfl ?_
  intro p e s m args below meth c A ls hAe hsz hx hb hml hr hlocks hin hown hE hP hD hA hS hl
  have hown : s.vm.findClass RX10 = some m.cls := hown
  refine lv_iload_n hx hb dX10_in_0 rfl (lv_at hl 0 rfl) ?_
  refine lv_iload_n hx hb dX10_in_1 rfl (lv_at hl 1 rfl) ?_
  refine lv_icmp_lt (tgt := 14) hx hb dX10_in_2 (by decide) (fun h => absurd h (i_nlt h2)) (fun _ => ?_)
  refine lv_iload_n hx hb dX10_in_5 rfl (lv_at hl 0 rfl) ?_
  refine lv_iload_n hx hb dX10_in_6 rfl (lv_at hl 2 rfl) ?_
  refine lv_icmp_gt (tgt := 14) hx hb dX10_in_7 (by decide) (fun _ => ?_) (fun h => absurd h3 h)
  refine lv_iconst (v := 0) hx hb dX10_in_14 (by decide) ?_
  exact x_zret hx hb hr rfl rfl hlocks hP hD hS hAe hsz (Nat.le_of_ble_eq_true rfl) (Nat.le_of_ble_eq_true rfl) (fun _ => 0) [] (by decide) rfl dX10_in_15

set_option maxHeartbeats 4000000 in
set_option maxRecDepth 100000 in
theorem c1586_X10_addClip (l : Launch) (g : gG) (q1 : Nat) (x2 x3 x4 x5 x6 : Int32) (w7 w8 w9 w10 w11 w12 w13 w14 w15 w16 w17 w18 w19 w20 w21 w22 w23 w24 w25 w26 w27 w28 w29 w30 w31 w32 w33 w34 w35 w36 w37 w38 w39 w40 w41 w42 w43 : Value) (h44 : (0 : Int32) ≤ x2) (h45 : x2 ≤ 9999) (h46 : (0 : Int32) ≤ x3) (h47 : x3 ≤ 7) (h48 : (1 : Int32) ≤ x4) (h49 : x4 ≤ 9) (h50 : ((-50) : Int32) ≤ x5) (h51 : (50 : Int32) < x5) (sz : Nat) : Met l yX10_addClip [Cond.code yX10_addClip cX10_addClip 8 (some .int)] ({ frames := 2, cells := 0, slots := 0, locals := 42 } : Room) (va_Pc [.ref q1, .int x2, .int x3, .int x4, .int x5, .int x6] (PX g sz [(q1, .inr (12, [w7, w8, w9, w10, w11, w12, w13, w14, w15, w16, w17, w18, w19, w20, w21, w22, w23, w24, w25, w26, w27, w28, w29, w30, w31, w32, w33, w34, w35, w36, w37, w38, w39, w40, w41, w42, w43]))])) (QI g [(q1, .inr (12, [w7, w8, w9, w10, w11, w12, w13, w14, w15, w16, w17, w18, w19, w20, w21, w22, w23, w24, w25, w26, w27, w28, w29, w30, w31, w32, w33, w34, w35, w36, w37, w38, w39, w40, w41, w42, w43]))] sz 0 (fun _ => [(q1, .inr (12, [w7, w8, w9, w10, w11, w12, .int 1, w14, w15, w16, w17, w18, w19, w20, w21, w22, w23, w24, w25, w26, w27, w28, w29, w30, w31, w32, w33, w34, w35, w36, w37, w38, w39, w40, w41, w42, w43]))])) 0 0 (va_A [(q1, .inr (12, [w7, w8, w9, w10, w11, w12, w13, w14, w15, w16, w17, w18, w19, w20, w21, w22, w23, w24, w25, w26, w27, w28, w29, w30, w31, w32, w33, w34, w35, w36, w37, w38, w39, w40, w41, w42, w43]))] sz) := by
  refine ofN (by decide) (Nat.le_of_ble_eq_true rfl) rfl ?_
  intro p e s m args below meth c A ls hAe hsz hx hb hml hr hlocks hin hown hE hP hD hA hS hl
  have hown : s.vm.findClass RX10 = some m.cls := hown
  refine lv_aload_n hx hb dX10_addClip_0 rfl (lv_at hl 0 rfl) ?_
  refine lv_iconst (v := 0) hx hb dX10_addClip_1 (by decide) ?_
  refine pf_RX10_86 (ws' := [(q1, .inr (12, [w7, w8, w9, w10, w11, w12, .int 0, w14, w15, w16, w17, w18, w19, w20, w21, w22, w23, w24, w25, w26, w27, w28, w29, w30, w31, w32, w33, w34, w35, w36, w37, w38, w39, w40, w41, w42, w43]))]) hx hb hown hE hP hD hS 0 rfl rfl rfl (Nat.le_of_ble_eq_true rfl) dX10_addClip_2 rfl (fun H locs hP hD hS => ?_)
  refine lv_iload_n hx hb dX10_addClip_5 rfl (lv_at hl 1 rfl) ?_
  refine lv_iconst (v := 0) hx hb dX10_addClip_6 (by decide) ?_
  refine lv_sipush (v := 9999) hx hb dX10_addClip_7 (by decide) ?_
  refine g0_i (rS (rest := []) hx hb hml hown hE hP hD (c1480_X10_in l g x2 h44 h45 H.size) (kS_X10_in hE (e1431 hE) rfl rfl ⟨(Nat.le_of_ble_eq_true rfl), (Nat.le_of_ble_eq_true rfl)⟩) [] rfl (by decide) rfl hl.1 rfl (lv_room (Nat.le_of_ble_eq_true rfl)) dX10_addClip_10 ⟨(Nat.le_of_ble_eq_true rfl), (Nat.le_of_ble_eq_true rfl)⟩) hP hD hS hA (fun u9 H locs hP hS => ?_)
  refine lv_if_eq (tgt := 59) hx hb dX10_addClip_13 (by decide) (fun h => absurd h (by decide)) (fun _ => ?_)
  refine lv_iload_n hx hb dX10_addClip_16 rfl (lv_at hl 2 rfl) ?_
  refine g0_i (rS (rest := []) hx hb hml hown hE hP hD (c94_X10_isPattern l g x3 h46 h47 H.size) (kS_X10_isPattern hE (e1428 hE) rfl rfl ⟨(Nat.le_of_ble_eq_true rfl), (Nat.le_of_ble_eq_true rfl)⟩) [] rfl (by decide) rfl hl.1 rfl (lv_room (Nat.le_of_ble_eq_true rfl)) dX10_addClip_17 ⟨(Nat.le_of_ble_eq_true rfl), (Nat.le_of_ble_eq_true rfl)⟩) hP hD hS hA (fun u9 H locs hP hS => ?_)
  refine lv_if_eq (tgt := 59) hx hb dX10_addClip_20 (by decide) (fun h => absurd h (by decide)) (fun _ => ?_)
  refine lv_iload_n hx hb dX10_addClip_23 rfl (lv_at hl 3 rfl) ?_
  refine lv_iconst (v := 1) hx hb dX10_addClip_24 (by decide) ?_
  refine lv_bipush (v := 9) hx hb dX10_addClip_25 (by decide) ?_
  refine g0_i (rS (rest := []) hx hb hml hown hE hP hD (c196_X10_in l g x4 h48 h49 H.size) (kS_X10_in hE (e1431 hE) rfl rfl ⟨(Nat.le_of_ble_eq_true rfl), (Nat.le_of_ble_eq_true rfl)⟩) [] rfl (by decide) rfl hl.1 rfl (lv_room (Nat.le_of_ble_eq_true rfl)) dX10_addClip_27 ⟨(Nat.le_of_ble_eq_true rfl), (Nat.le_of_ble_eq_true rfl)⟩) hP hD hS hA (fun u9 H locs hP hS => ?_)
  refine lv_if_eq (tgt := 59) hx hb dX10_addClip_30 (by decide) (fun h => absurd h (by decide)) (fun _ => ?_)
  refine lv_iload hx hb dX10_addClip_33 (lv_at hl 4 rfl) ?_
  refine lv_bipush (v := (-50)) hx hb dX10_addClip_35 (by decide) ?_
  refine lv_bipush (v := 50) hx hb dX10_addClip_37 (by decide) ?_
  refine g0_i (rS (rest := []) hx hb hml hown hE hP hD (c1585_X10_in l g x5 h50 h51 H.size) (kS_X10_in hE (e1431 hE) rfl rfl ⟨(Nat.le_of_ble_eq_true rfl), (Nat.le_of_ble_eq_true rfl)⟩) [] rfl (by decide) rfl hl.1 rfl (lv_room (Nat.le_of_ble_eq_true rfl)) dX10_addClip_39 ⟨(Nat.le_of_ble_eq_true rfl), (Nat.le_of_ble_eq_true rfl)⟩) hP hD hS hA (fun u9 H locs hP hS => ?_)
  refine lv_if_eq (tgt := 59) hx hb dX10_addClip_42 (by decide) (fun _ => ?_) (fun h => absurd (by decide) h)
  refine lv_iconst (v := 0) hx hb dX10_addClip_59 (by decide) ?_
  refine lv_istore (lv' := [(6, .int 0), (0, .ref q1), (1, .int x2), (2, .int x3), (3, .int x4), (4, .int x5), (5, .int x6)]) hx hb dX10_addClip_60 hl (by decide) rfl (fun ls hl => ?_)
  refine lv_iload hx hb dX10_addClip_62 (lv_at hl 0 rfl) ?_
  refine lv_if_ne (tgt := 73) hx hb dX10_addClip_64 (by decide) (fun h => absurd h (by decide)) (fun _ => ?_)
  refine lv_aload_n hx hb dX10_addClip_67 rfl (lv_at hl 1 rfl) ?_
  refine lv_iconst (v := 1) hx hb dX10_addClip_68 (by decide) ?_
  refine g_i (wr := []) (rV (rest := []) hx hb hml hown hE hP hD 0 rfl rfl (c1475_X10_refuse l g q1 w7 w8 w9 w10 w11 w12 (.int 0) w14 w15 w16 w17 w18 w19 w20 w21 w22 w23 w24 w25 w26 w27 w28 w29 w30 w31 w32 w33 w34 w35 w36 w37 w38 w39 w40 w41 w42 w43 H.size) (kV_X10_refuse hE (e1474 hE) rfl rfl ⟨(Nat.le_of_ble_eq_true rfl), (Nat.le_of_ble_eq_true rfl)⟩) [0] rfl (by decide) rfl hl.1 rfl (lv_room (Nat.le_of_ble_eq_true rfl)) dX10_addClip_69 ⟨(Nat.le_of_ble_eq_true rfl), (Nat.le_of_ble_eq_true rfl)⟩) hP hD hS hA [0] [] rfl rfl (by decide) (by decide) (fun u5 H locs hP hD hS => ?_)
  have hP : va_P g.1 vwCl [(q1, .inr (12, [w7, w8, w9, w10, w11, w12, .int 1, w14, w15, w16, w17, w18, w19, w20, w21, w22, w23, w24, w25, w26, w27, w28, w29, w30, w31, w32, w33, w34, w35, w36, w37, w38, w39, w40, w41, w42, w43]))] H := hP
  have hD : va_D A [(q1, .inr (12, [w7, w8, w9, w10, w11, w12, .int 1, w14, w15, w16, w17, w18, w19, w20, w21, w22, w23, w24, w25, w26, w27, w28, w29, w30, w31, w32, w33, w34, w35, w36, w37, w38, w39, w40, w41, w42, w43]))] := hD
  exact x_zret hx hb hr rfl rfl hlocks hP hD hS hAe hsz (Nat.le_of_ble_eq_true rfl) (Nat.le_of_ble_eq_true rfl) (fun _ => 0) [0] (by decide) rfl dX10_addClip_72

set_option maxHeartbeats 4000000 in
set_option maxRecDepth 100000 in
theorem c1587_X9_addClip (l : Launch) (g : gG) (hlx : l.stackTraces = false) (q1 : Nat) (x2 x3 x4 x5 x6 : Int32) (h7 : (0 : Int32) ≤ x2) (h8 : x2 ≤ 9999) (h9 : (0 : Int32) ≤ x3) (h10 : x3 ≤ 7) (h11 : (1 : Int32) ≤ x4) (h12 : (9 : Int32) < x4) (sz : Nat) : vx_Met l yX9_addClip [Cond.code yX9_addClip cX9_addClip 7 (some .int)] ({ frames := 7, cells := 1, slots := 6, locals := 122 } : Room) (va_Pc [.ref q1, .int x2, .int x3, .int x4, .int x5, .int x6] (PZ g sz [])) NI (XW g [] sz "java/lang/IllegalArgumentException" []) 1 6 (va_A [] sz) := by
  refine ofX (by decide) (Nat.le_of_ble_eq_true rfl) rfl ?_
  intro p e s m args below meth c A ls hAe hsz hx hb hml hr hlocks hin hown hE hP hD hA hS hl hex hz
  have hown : s.vm.findClass RX9 = some m.cls := hown
  refine lv_iload_n hx hb dX9_addClip_0 rfl (lv_at hl 1 rfl) ?_
  refine lv_iconst (v := 0) hx hb dX9_addClip_1 (by decide) ?_
  refine lv_sipush (v := 9999) hx hb dX9_addClip_2 (by decide) ?_
  refine g0_v (rS (rest := []) hx hb hml hown hE hP hD (c1477_X9_requireRange l g x2 h7 h8 s.heap.size) (kS_X9_requireRange hE (e636 hE) rfl rfl ⟨(Nat.le_of_ble_eq_true rfl), (Nat.le_of_ble_eq_true rfl)⟩) [] rfl (by decide) rfl hl.1 rfl (lv_room (Nat.le_of_ble_eq_true rfl)) dX9_addClip_5 ⟨(Nat.le_of_ble_eq_true rfl), (Nat.le_of_ble_eq_true rfl)⟩) hP hD hS hA (fun u9 H locs hP hS => ?_)
  refine lv_iload_n hx hb dX9_addClip_8 rfl (lv_at hl 2 rfl) ?_
  refine lv_iconst (v := 0) hx hb dX9_addClip_9 (by decide) ?_
  refine lv_bipush (v := 7) hx hb dX9_addClip_10 (by decide) ?_
  refine g0_v (rS (rest := []) hx hb hml hown hE hP hD (c1482_X9_requireRange l g x3 h9 h10 H.size) (kS_X9_requireRange hE (e636 hE) rfl rfl ⟨(Nat.le_of_ble_eq_true rfl), (Nat.le_of_ble_eq_true rfl)⟩) [] rfl (by decide) rfl hl.1 rfl (lv_room (Nat.le_of_ble_eq_true rfl)) dX9_addClip_12 ⟨(Nat.le_of_ble_eq_true rfl), (Nat.le_of_ble_eq_true rfl)⟩) hP hD hS hA (fun u9 H locs hP hS => ?_)
  refine lv_iload_n hx hb dX9_addClip_15 rfl (lv_at hl 3 rfl) ?_
  refine lv_iconst (v := 1) hx hb dX9_addClip_16 (by decide) ?_
  refine lv_bipush (v := 9) hx hb dX9_addClip_17 (by decide) ?_
  refine gx_v (wr := []) (rSx (rest := []) hx hb hml hown hE hP hD hS hA hz (c436_X9_requireRange l g hlx x4 h11 h12 H.size) (kS_X9_requireRange hE (e636 hE) rfl rfl ⟨(Nat.le_of_ble_eq_true rfl), (Nat.le_of_ble_eq_true rfl)⟩) [] rfl (by decide) rfl hl.1 rfl (lv_room (Nat.le_of_ble_eq_true rfl)) dX9_addClip_19 ⟨(Nat.le_of_ble_eq_true rfl), (Nat.le_of_ble_eq_true rfl)⟩) hP hD hS hA [] [] rfl rfl (by decide) (by decide) (fun ce9 q9 H locs hP hD hS hq1 hq2 hq3 => ?_)
  exact x_out hex hlocks hq1 hq2 hq3 hP hD hS hAe hsz (Nat.le_of_ble_eq_true rfl) (Nat.le_of_ble_eq_true rfl) [] (by decide) rfl

set_option maxHeartbeats 4000000 in
set_option maxRecDepth 100000 in
theorem c1588_L_addClip (l : Launch) (g : gG) (hlx : l.stackTraces = false) (q1 q7 : Nat) (x2 x3 x4 x5 x6 : Int32) (w14 w15 w16 w17 w18 w19 w20 w21 w22 w23 w24 : Value) (h8 : (0 : Int32) ≤ x2) (h9 : x2 ≤ 9999) (h10 : (0 : Int32) ≤ x3) (h11 : x3 ≤ 7) (h12 : (1 : Int32) ≤ x4) (h13 : (9 : Int32) < x4) (sz : Nat) : Met l yL_addClip [Cond.codeWith yL_addClip cL_addClip 8 (some .int) [(0, 16, 19, 15), (0, 16, 23, 17)]] ({ frames := 8, cells := 1, slots := 6, locals := 148 } : Room) (va_Pc [.ref q1, .int x2, .int x3, .int x4, .int x5, .int x6, .ref q7] (PZ g sz [(q1, .inr (11, [w14, w15, w16, w17, w18, w19, w20, w21, w22, w23, w24]))])) (QI g [(q1, .inr (11, [w14, w15, w16, w17, w18, w19, w20, w21, w22, w23, w24]))] sz 1 (fun _ => [])) 1 6 (va_A [(q1, .inr (11, [w14, w15, w16, w17, w18, w19, w20, w21, w22, w23, w24]))] sz) := by
  refine ofH (by decide) (Nat.le_of_ble_eq_true rfl) rfl ?_
  intro p e s m args below meth c A ls hAe hsz hx hb hml hr hlocks hin hown hE hP hD hA hS hl htb hz
  have hown : s.vm.findClass RL = some m.cls := hown
  refine lv_aload hx hb dL_addClip_0 (lv_at hl 6 rfl) ?_
  refine lv_iconst (v := 0) hx hb dL_addClip_2 (by decide) ?_
  refine lv_aload_n hx hb dL_addClip_3 rfl (lv_at hl 0 rfl) ?_
  refine lv_iload_n hx hb dL_addClip_4 rfl (lv_at hl 1 rfl) ?_
  refine lv_iload_n hx hb dL_addClip_5 rfl (lv_at hl 2 rfl) ?_
  refine lv_iload_n hx hb dL_addClip_6 rfl (lv_at hl 3 rfl) ?_
  refine lv_iload hx hb dL_addClip_7 (lv_at hl 4 rfl) ?_
  refine lv_iload hx hb dL_addClip_9 (lv_at hl 5 rfl) ?_
  refine gx_i (wr := [(q1, .inr (11, [w14, w15, w16, w17, w18, w19, w20, w21, w22, w23, w24]))]) (rVx (rest := [.int 0, .ref q7]) hx hb hml hown hE hP hD hS hA hz 0 rfl rfl (c1587_X9_addClip l g hlx q1 x2 x3 x4 x5 x6 h8 h9 h10 h11 h12 h13 s.heap.size) (kV_X9_addClip hE (e803 hE) rfl rfl ⟨(Nat.le_of_ble_eq_true rfl), (Nat.le_of_ble_eq_true rfl)⟩) [] rfl (by decide) rfl hl.1 rfl (lv_room (Nat.le_of_ble_eq_true rfl)) dL_addClip_11 ⟨(Nat.le_of_ble_eq_true rfl), (Nat.le_of_ble_eq_true rfl)⟩) hP hD hS hA [] [0] rfl rfl (by decide) (by decide) (fun ce9 q9 H locs hP hD hS hq1 hq2 hq3 => ?_)
  have hP : va_P g.1 vwCl [(q1, .inr (11, [w14, w15, w16, w17, w18, w19, w20, w21, w22, w23, w24]))] H := hP
  have hD : va_D A [(q1, .inr (11, [w14, w15, w16, w17, w18, w19, w20, w21, w22, w23, w24]))] := hD
  refine x_catch (name := "java/lang/IllegalArgumentException") (hh := [(0, 16, 19, 15), (0, 16, 23, 17)]) (tgt := 19) hown htb [] ⟨0, 16, 19, 15⟩ [⟨0, 16, 23, 17⟩] rfl (fun _ h => nomatch h) rfl (by decide) (e611 hE) (e641 hE) hq1 hq2 hq3 rfl ?_
  refine lv_astore (lv' := [(7, .ref q9), (0, .ref q1), (1, .int x2), (2, .int x3), (3, .int x4), (4, .int x5), (5, .int x6), (6, .ref q7)]) hx hb dL_addClip_19 hl (by decide) rfl (fun ls hl => ?_)
  refine lv_iconst (v := 1) hx hb dL_addClip_21 (by decide) ?_
  exact x_zret hx hb hr rfl rfl hlocks hP hD hS hAe hsz (Nat.le_of_ble_eq_true rfl) (Nat.le_of_ble_eq_true rfl) (fun _ => 0) [] (by decide) rfl dL_addClip_22

set_option maxHeartbeats 4000000 in
set_option maxRecDepth 100000 in
theorem c1589_X10_addClip (l : Launch) (g : gG) (q1 : Nat) (x2 x3 x4 x5 x6 : Int32) (w7 w8 w9 w10 w11 w12 w13 w14 w15 w16 w17 w18 w19 w20 w21 w22 w23 w24 w25 w26 w27 w28 w29 w30 w31 w32 w33 w34 w35 w36 w37 w38 w39 w40 w41 w42 w43 : Value) (h44 : (0 : Int32) ≤ x2) (h45 : x2 ≤ 9999) (h46 : (0 : Int32) ≤ x3) (h47 : x3 ≤ 7) (h48 : (1 : Int32) ≤ x4) (h49 : (9 : Int32) < x4) (sz : Nat) : Met l yX10_addClip [Cond.code yX10_addClip cX10_addClip 8 (some .int)] ({ frames := 2, cells := 0, slots := 0, locals := 42 } : Room) (va_Pc [.ref q1, .int x2, .int x3, .int x4, .int x5, .int x6] (PX g sz [(q1, .inr (12, [w7, w8, w9, w10, w11, w12, w13, w14, w15, w16, w17, w18, w19, w20, w21, w22, w23, w24, w25, w26, w27, w28, w29, w30, w31, w32, w33, w34, w35, w36, w37, w38, w39, w40, w41, w42, w43]))])) (QI g [(q1, .inr (12, [w7, w8, w9, w10, w11, w12, w13, w14, w15, w16, w17, w18, w19, w20, w21, w22, w23, w24, w25, w26, w27, w28, w29, w30, w31, w32, w33, w34, w35, w36, w37, w38, w39, w40, w41, w42, w43]))] sz 0 (fun _ => [(q1, .inr (12, [w7, w8, w9, w10, w11, w12, .int 1, w14, w15, w16, w17, w18, w19, w20, w21, w22, w23, w24, w25, w26, w27, w28, w29, w30, w31, w32, w33, w34, w35, w36, w37, w38, w39, w40, w41, w42, w43]))])) 0 0 (va_A [(q1, .inr (12, [w7, w8, w9, w10, w11, w12, w13, w14, w15, w16, w17, w18, w19, w20, w21, w22, w23, w24, w25, w26, w27, w28, w29, w30, w31, w32, w33, w34, w35, w36, w37, w38, w39, w40, w41, w42, w43]))] sz) := by
  refine ofN (by decide) (Nat.le_of_ble_eq_true rfl) rfl ?_
  intro p e s m args below meth c A ls hAe hsz hx hb hml hr hlocks hin hown hE hP hD hA hS hl
  have hown : s.vm.findClass RX10 = some m.cls := hown
  refine lv_aload_n hx hb dX10_addClip_0 rfl (lv_at hl 0 rfl) ?_
  refine lv_iconst (v := 0) hx hb dX10_addClip_1 (by decide) ?_
  refine pf_RX10_86 (ws' := [(q1, .inr (12, [w7, w8, w9, w10, w11, w12, .int 0, w14, w15, w16, w17, w18, w19, w20, w21, w22, w23, w24, w25, w26, w27, w28, w29, w30, w31, w32, w33, w34, w35, w36, w37, w38, w39, w40, w41, w42, w43]))]) hx hb hown hE hP hD hS 0 rfl rfl rfl (Nat.le_of_ble_eq_true rfl) dX10_addClip_2 rfl (fun H locs hP hD hS => ?_)
  refine lv_iload_n hx hb dX10_addClip_5 rfl (lv_at hl 1 rfl) ?_
  refine lv_iconst (v := 0) hx hb dX10_addClip_6 (by decide) ?_
  refine lv_sipush (v := 9999) hx hb dX10_addClip_7 (by decide) ?_
  refine g0_i (rS (rest := []) hx hb hml hown hE hP hD (c1480_X10_in l g x2 h44 h45 H.size) (kS_X10_in hE (e1431 hE) rfl rfl ⟨(Nat.le_of_ble_eq_true rfl), (Nat.le_of_ble_eq_true rfl)⟩) [] rfl (by decide) rfl hl.1 rfl (lv_room (Nat.le_of_ble_eq_true rfl)) dX10_addClip_10 ⟨(Nat.le_of_ble_eq_true rfl), (Nat.le_of_ble_eq_true rfl)⟩) hP hD hS hA (fun u9 H locs hP hS => ?_)
  refine lv_if_eq (tgt := 59) hx hb dX10_addClip_13 (by decide) (fun h => absurd h (by decide)) (fun _ => ?_)
  refine lv_iload_n hx hb dX10_addClip_16 rfl (lv_at hl 2 rfl) ?_
  refine g0_i (rS (rest := []) hx hb hml hown hE hP hD (c94_X10_isPattern l g x3 h46 h47 H.size) (kS_X10_isPattern hE (e1428 hE) rfl rfl ⟨(Nat.le_of_ble_eq_true rfl), (Nat.le_of_ble_eq_true rfl)⟩) [] rfl (by decide) rfl hl.1 rfl (lv_room (Nat.le_of_ble_eq_true rfl)) dX10_addClip_17 ⟨(Nat.le_of_ble_eq_true rfl), (Nat.le_of_ble_eq_true rfl)⟩) hP hD hS hA (fun u9 H locs hP hS => ?_)
  refine lv_if_eq (tgt := 59) hx hb dX10_addClip_20 (by decide) (fun h => absurd h (by decide)) (fun _ => ?_)
  refine lv_iload_n hx hb dX10_addClip_23 rfl (lv_at hl 3 rfl) ?_
  refine lv_iconst (v := 1) hx hb dX10_addClip_24 (by decide) ?_
  refine lv_bipush (v := 9) hx hb dX10_addClip_25 (by decide) ?_
  refine g0_i (rS (rest := []) hx hb hml hown hE hP hD (c439_X10_in l g x4 h48 h49 H.size) (kS_X10_in hE (e1431 hE) rfl rfl ⟨(Nat.le_of_ble_eq_true rfl), (Nat.le_of_ble_eq_true rfl)⟩) [] rfl (by decide) rfl hl.1 rfl (lv_room (Nat.le_of_ble_eq_true rfl)) dX10_addClip_27 ⟨(Nat.le_of_ble_eq_true rfl), (Nat.le_of_ble_eq_true rfl)⟩) hP hD hS hA (fun u9 H locs hP hS => ?_)
  refine lv_if_eq (tgt := 59) hx hb dX10_addClip_30 (by decide) (fun _ => ?_) (fun h => absurd (by decide) h)
  refine lv_iconst (v := 0) hx hb dX10_addClip_59 (by decide) ?_
  refine lv_istore (lv' := [(6, .int 0), (0, .ref q1), (1, .int x2), (2, .int x3), (3, .int x4), (4, .int x5), (5, .int x6)]) hx hb dX10_addClip_60 hl (by decide) rfl (fun ls hl => ?_)
  refine lv_iload hx hb dX10_addClip_62 (lv_at hl 0 rfl) ?_
  refine lv_if_ne (tgt := 73) hx hb dX10_addClip_64 (by decide) (fun h => absurd h (by decide)) (fun _ => ?_)
  refine lv_aload_n hx hb dX10_addClip_67 rfl (lv_at hl 1 rfl) ?_
  refine lv_iconst (v := 1) hx hb dX10_addClip_68 (by decide) ?_
  refine g_i (wr := []) (rV (rest := []) hx hb hml hown hE hP hD 0 rfl rfl (c1475_X10_refuse l g q1 w7 w8 w9 w10 w11 w12 (.int 0) w14 w15 w16 w17 w18 w19 w20 w21 w22 w23 w24 w25 w26 w27 w28 w29 w30 w31 w32 w33 w34 w35 w36 w37 w38 w39 w40 w41 w42 w43 H.size) (kV_X10_refuse hE (e1474 hE) rfl rfl ⟨(Nat.le_of_ble_eq_true rfl), (Nat.le_of_ble_eq_true rfl)⟩) [0] rfl (by decide) rfl hl.1 rfl (lv_room (Nat.le_of_ble_eq_true rfl)) dX10_addClip_69 ⟨(Nat.le_of_ble_eq_true rfl), (Nat.le_of_ble_eq_true rfl)⟩) hP hD hS hA [0] [] rfl rfl (by decide) (by decide) (fun u4 H locs hP hD hS => ?_)
  have hP : va_P g.1 vwCl [(q1, .inr (12, [w7, w8, w9, w10, w11, w12, .int 1, w14, w15, w16, w17, w18, w19, w20, w21, w22, w23, w24, w25, w26, w27, w28, w29, w30, w31, w32, w33, w34, w35, w36, w37, w38, w39, w40, w41, w42, w43]))] H := hP
  have hD : va_D A [(q1, .inr (12, [w7, w8, w9, w10, w11, w12, .int 1, w14, w15, w16, w17, w18, w19, w20, w21, w22, w23, w24, w25, w26, w27, w28, w29, w30, w31, w32, w33, w34, w35, w36, w37, w38, w39, w40, w41, w42, w43]))] := hD
  exact x_zret hx hb hr rfl rfl hlocks hP hD hS hAe hsz (Nat.le_of_ble_eq_true rfl) (Nat.le_of_ble_eq_true rfl) (fun _ => 0) [0] (by decide) rfl dX10_addClip_72

set_option maxHeartbeats 4000000 in
set_option maxRecDepth 100000 in
theorem c1590_X9_requireRange (l : Launch) (g : gG) (hlx : l.stackTraces = false) (x1 : Int32) (h2 : (0 : Int32) ≤ x1) (h3 : (7 : Int32) < x1) (sz : Nat) : vx_Met l yX9_requireRange [Cond.code yX9_requireRange cX9_requireRange 3 none] ({ frames := 6, cells := 1, slots := 6, locals := 100 } : Room) (va_Pc [.int x1, .int 0, .int 7] (PZ g sz [])) NV (XW g [] sz "java/lang/IllegalArgumentException" []) 1 6 (va_A [] sz) := by
  refine ofX (by decide) (Nat.le_of_ble_eq_true rfl) rfl ?_
  intro p e s m args below meth c A ls hAe hsz hx hb hml hr hlocks hin hown hE hP hD hA hS hl hex hz
  have hown : s.vm.findClass RX9 = some m.cls := hown
  refine lv_iload_n hx hb dX9_requireRange_0 rfl (lv_at hl 0 rfl) ?_
  refine lv_iload_n hx hb dX9_requireRange_1 rfl (lv_at hl 1 rfl) ?_
  refine lv_icmp_lt (tgt := 10) hx hb dX9_requireRange_2 (by decide) (fun h => absurd h (i_nlt h2)) (fun _ => ?_)
  refine lv_iload_n hx hb dX9_requireRange_5 rfl (lv_at hl 0 rfl) ?_
  refine lv_iload_n hx hb dX9_requireRange_6 rfl (lv_at hl 2 rfl) ?_
  refine lv_icmp_le (tgt := 21) hx hb dX9_requireRange_7 (by decide) (fun h => absurd h (i_nle h3)) (fun _ => ?_)
  exact x_throwW (text := "a number is out of range") (names := ["java/lang/RuntimeException", "java/lang/Exception"]) hx hb hlx hown hE (by decide) (by decide) (e639 hE) (e20 hE) (by decide +kernel) (th_215 hE) tg_215_211 hz (by rw [hml]; exact hl.1) dX9_requireRange_10 dX9_requireRange_13 dX9_requireRange_14 dX9_requireRange_17 dX9_requireRange_20 hex (Nat.le_of_ble_eq_true rfl) (Nat.le_of_ble_eq_true rfl) (Nat.le_of_ble_eq_true rfl) (Nat.le_of_ble_eq_true rfl) hlocks hP hD hS hAe hsz (Nat.le_of_ble_eq_true rfl) (Nat.le_of_ble_eq_true rfl) [] (by decide) rfl

set_option maxHeartbeats 4000000 in
set_option maxRecDepth 100000 in
theorem c1591_X9_addClip (l : Launch) (g : gG) (hlx : l.stackTraces = false) (q1 : Nat) (x2 x3 x4 x5 x6 : Int32) (h7 : (0 : Int32) ≤ x2) (h8 : x2 ≤ 9999) (h9 : (0 : Int32) ≤ x3) (h10 : (7 : Int32) < x3) (sz : Nat) : vx_Met l yX9_addClip [Cond.code yX9_addClip cX9_addClip 7 (some .int)] ({ frames := 7, cells := 1, slots := 6, locals := 122 } : Room) (va_Pc [.ref q1, .int x2, .int x3, .int x4, .int x5, .int x6] (PZ g sz [])) NI (XW g [] sz "java/lang/IllegalArgumentException" []) 1 6 (va_A [] sz) := by
  refine ofX (by decide) (Nat.le_of_ble_eq_true rfl) rfl ?_
  intro p e s m args below meth c A ls hAe hsz hx hb hml hr hlocks hin hown hE hP hD hA hS hl hex hz
  have hown : s.vm.findClass RX9 = some m.cls := hown
  refine lv_iload_n hx hb dX9_addClip_0 rfl (lv_at hl 1 rfl) ?_
  refine lv_iconst (v := 0) hx hb dX9_addClip_1 (by decide) ?_
  refine lv_sipush (v := 9999) hx hb dX9_addClip_2 (by decide) ?_
  refine g0_v (rS (rest := []) hx hb hml hown hE hP hD (c1477_X9_requireRange l g x2 h7 h8 s.heap.size) (kS_X9_requireRange hE (e636 hE) rfl rfl ⟨(Nat.le_of_ble_eq_true rfl), (Nat.le_of_ble_eq_true rfl)⟩) [] rfl (by decide) rfl hl.1 rfl (lv_room (Nat.le_of_ble_eq_true rfl)) dX9_addClip_5 ⟨(Nat.le_of_ble_eq_true rfl), (Nat.le_of_ble_eq_true rfl)⟩) hP hD hS hA (fun u9 H locs hP hS => ?_)
  refine lv_iload_n hx hb dX9_addClip_8 rfl (lv_at hl 2 rfl) ?_
  refine lv_iconst (v := 0) hx hb dX9_addClip_9 (by decide) ?_
  refine lv_bipush (v := 7) hx hb dX9_addClip_10 (by decide) ?_
  refine gx_v (wr := []) (rSx (rest := []) hx hb hml hown hE hP hD hS hA hz (c1590_X9_requireRange l g hlx x3 h9 h10 H.size) (kS_X9_requireRange hE (e636 hE) rfl rfl ⟨(Nat.le_of_ble_eq_true rfl), (Nat.le_of_ble_eq_true rfl)⟩) [] rfl (by decide) rfl hl.1 rfl (lv_room (Nat.le_of_ble_eq_true rfl)) dX9_addClip_12 ⟨(Nat.le_of_ble_eq_true rfl), (Nat.le_of_ble_eq_true rfl)⟩) hP hD hS hA [] [] rfl rfl (by decide) (by decide) (fun ce9 q9 H locs hP hD hS hq1 hq2 hq3 => ?_)
  exact x_out hex hlocks hq1 hq2 hq3 hP hD hS hAe hsz (Nat.le_of_ble_eq_true rfl) (Nat.le_of_ble_eq_true rfl) [] (by decide) rfl

set_option maxHeartbeats 4000000 in
set_option maxRecDepth 100000 in
theorem c1592_L_addClip (l : Launch) (g : gG) (hlx : l.stackTraces = false) (q1 q7 : Nat) (x2 x3 x4 x5 x6 : Int32) (w12 w13 w14 w15 w16 w17 w18 w19 w20 w21 w22 : Value) (h8 : (0 : Int32) ≤ x2) (h9 : x2 ≤ 9999) (h10 : (0 : Int32) ≤ x3) (h11 : (7 : Int32) < x3) (sz : Nat) : Met l yL_addClip [Cond.codeWith yL_addClip cL_addClip 8 (some .int) [(0, 16, 19, 15), (0, 16, 23, 17)]] ({ frames := 8, cells := 1, slots := 6, locals := 148 } : Room) (va_Pc [.ref q1, .int x2, .int x3, .int x4, .int x5, .int x6, .ref q7] (PZ g sz [(q1, .inr (11, [w12, w13, w14, w15, w16, w17, w18, w19, w20, w21, w22]))])) (QI g [(q1, .inr (11, [w12, w13, w14, w15, w16, w17, w18, w19, w20, w21, w22]))] sz 1 (fun _ => [])) 1 6 (va_A [(q1, .inr (11, [w12, w13, w14, w15, w16, w17, w18, w19, w20, w21, w22]))] sz) := by
  refine ofH (by decide) (Nat.le_of_ble_eq_true rfl) rfl ?_
  intro p e s m args below meth c A ls hAe hsz hx hb hml hr hlocks hin hown hE hP hD hA hS hl htb hz
  have hown : s.vm.findClass RL = some m.cls := hown
  refine lv_aload hx hb dL_addClip_0 (lv_at hl 6 rfl) ?_
  refine lv_iconst (v := 0) hx hb dL_addClip_2 (by decide) ?_
  refine lv_aload_n hx hb dL_addClip_3 rfl (lv_at hl 0 rfl) ?_
  refine lv_iload_n hx hb dL_addClip_4 rfl (lv_at hl 1 rfl) ?_
  refine lv_iload_n hx hb dL_addClip_5 rfl (lv_at hl 2 rfl) ?_
  refine lv_iload_n hx hb dL_addClip_6 rfl (lv_at hl 3 rfl) ?_
  refine lv_iload hx hb dL_addClip_7 (lv_at hl 4 rfl) ?_
  refine lv_iload hx hb dL_addClip_9 (lv_at hl 5 rfl) ?_
  refine gx_i (wr := [(q1, .inr (11, [w12, w13, w14, w15, w16, w17, w18, w19, w20, w21, w22]))]) (rVx (rest := [.int 0, .ref q7]) hx hb hml hown hE hP hD hS hA hz 0 rfl rfl (c1591_X9_addClip l g hlx q1 x2 x3 x4 x5 x6 h8 h9 h10 h11 s.heap.size) (kV_X9_addClip hE (e803 hE) rfl rfl ⟨(Nat.le_of_ble_eq_true rfl), (Nat.le_of_ble_eq_true rfl)⟩) [] rfl (by decide) rfl hl.1 rfl (lv_room (Nat.le_of_ble_eq_true rfl)) dL_addClip_11 ⟨(Nat.le_of_ble_eq_true rfl), (Nat.le_of_ble_eq_true rfl)⟩) hP hD hS hA [] [0] rfl rfl (by decide) (by decide) (fun ce9 q9 H locs hP hD hS hq1 hq2 hq3 => ?_)
  have hP : va_P g.1 vwCl [(q1, .inr (11, [w12, w13, w14, w15, w16, w17, w18, w19, w20, w21, w22]))] H := hP
  have hD : va_D A [(q1, .inr (11, [w12, w13, w14, w15, w16, w17, w18, w19, w20, w21, w22]))] := hD
  refine x_catch (name := "java/lang/IllegalArgumentException") (hh := [(0, 16, 19, 15), (0, 16, 23, 17)]) (tgt := 19) hown htb [] ⟨0, 16, 19, 15⟩ [⟨0, 16, 23, 17⟩] rfl (fun _ h => nomatch h) rfl (by decide) (e611 hE) (e641 hE) hq1 hq2 hq3 rfl ?_
  refine lv_astore (lv' := [(7, .ref q9), (0, .ref q1), (1, .int x2), (2, .int x3), (3, .int x4), (4, .int x5), (5, .int x6), (6, .ref q7)]) hx hb dL_addClip_19 hl (by decide) rfl (fun ls hl => ?_)
  refine lv_iconst (v := 1) hx hb dL_addClip_21 (by decide) ?_
  exact x_zret hx hb hr rfl rfl hlocks hP hD hS hAe hsz (Nat.le_of_ble_eq_true rfl) (Nat.le_of_ble_eq_true rfl) (fun _ => 0) [] (by decide) rfl dL_addClip_22

set_option maxHeartbeats 4000000 in
set_option maxRecDepth 100000 in
theorem c1593_X10_addClip (l : Launch) (g : gG) (q1 : Nat) (x2 x3 x4 x5 x6 : Int32) (w7 w8 w9 w10 w11 w12 w13 w14 w15 w16 w17 w18 w19 w20 w21 w22 w23 w24 w25 w26 w27 w28 w29 w30 w31 w32 w33 w34 w35 w36 w37 w38 w39 w40 w41 w42 w43 : Value) (h44 : (0 : Int32) ≤ x2) (h45 : x2 ≤ 9999) (h46 : (0 : Int32) ≤ x3) (h47 : (7 : Int32) < x3) (sz : Nat) : Met l yX10_addClip [Cond.code yX10_addClip cX10_addClip 8 (some .int)] ({ frames := 2, cells := 0, slots := 0, locals := 42 } : Room) (va_Pc [.ref q1, .int x2, .int x3, .int x4, .int x5, .int x6] (PX g sz [(q1, .inr (12, [w7, w8, w9, w10, w11, w12, w13, w14, w15, w16, w17, w18, w19, w20, w21, w22, w23, w24, w25, w26, w27, w28, w29, w30, w31, w32, w33, w34, w35, w36, w37, w38, w39, w40, w41, w42, w43]))])) (QI g [(q1, .inr (12, [w7, w8, w9, w10, w11, w12, w13, w14, w15, w16, w17, w18, w19, w20, w21, w22, w23, w24, w25, w26, w27, w28, w29, w30, w31, w32, w33, w34, w35, w36, w37, w38, w39, w40, w41, w42, w43]))] sz 0 (fun _ => [(q1, .inr (12, [w7, w8, w9, w10, w11, w12, .int 1, w14, w15, w16, w17, w18, w19, w20, w21, w22, w23, w24, w25, w26, w27, w28, w29, w30, w31, w32, w33, w34, w35, w36, w37, w38, w39, w40, w41, w42, w43]))])) 0 0 (va_A [(q1, .inr (12, [w7, w8, w9, w10, w11, w12, w13, w14, w15, w16, w17, w18, w19, w20, w21, w22, w23, w24, w25, w26, w27, w28, w29, w30, w31, w32, w33, w34, w35, w36, w37, w38, w39, w40, w41, w42, w43]))] sz) := by
  refine ofN (by decide) (Nat.le_of_ble_eq_true rfl) rfl ?_
  intro p e s m args below meth c A ls hAe hsz hx hb hml hr hlocks hin hown hE hP hD hA hS hl
  have hown : s.vm.findClass RX10 = some m.cls := hown
  refine lv_aload_n hx hb dX10_addClip_0 rfl (lv_at hl 0 rfl) ?_
  refine lv_iconst (v := 0) hx hb dX10_addClip_1 (by decide) ?_
  refine pf_RX10_86 (ws' := [(q1, .inr (12, [w7, w8, w9, w10, w11, w12, .int 0, w14, w15, w16, w17, w18, w19, w20, w21, w22, w23, w24, w25, w26, w27, w28, w29, w30, w31, w32, w33, w34, w35, w36, w37, w38, w39, w40, w41, w42, w43]))]) hx hb hown hE hP hD hS 0 rfl rfl rfl (Nat.le_of_ble_eq_true rfl) dX10_addClip_2 rfl (fun H locs hP hD hS => ?_)
  refine lv_iload_n hx hb dX10_addClip_5 rfl (lv_at hl 1 rfl) ?_
  refine lv_iconst (v := 0) hx hb dX10_addClip_6 (by decide) ?_
  refine lv_sipush (v := 9999) hx hb dX10_addClip_7 (by decide) ?_
  refine g0_i (rS (rest := []) hx hb hml hown hE hP hD (c1480_X10_in l g x2 h44 h45 H.size) (kS_X10_in hE (e1431 hE) rfl rfl ⟨(Nat.le_of_ble_eq_true rfl), (Nat.le_of_ble_eq_true rfl)⟩) [] rfl (by decide) rfl hl.1 rfl (lv_room (Nat.le_of_ble_eq_true rfl)) dX10_addClip_10 ⟨(Nat.le_of_ble_eq_true rfl), (Nat.le_of_ble_eq_true rfl)⟩) hP hD hS hA (fun u9 H locs hP hS => ?_)
  refine lv_if_eq (tgt := 59) hx hb dX10_addClip_13 (by decide) (fun h => absurd h (by decide)) (fun _ => ?_)
  refine lv_iload_n hx hb dX10_addClip_16 rfl (lv_at hl 2 rfl) ?_
  refine g0_i (rS (rest := []) hx hb hml hown hE hP hD (c462_X10_isPattern l g x3 h46 h47 H.size) (kS_X10_isPattern hE (e1428 hE) rfl rfl ⟨(Nat.le_of_ble_eq_true rfl), (Nat.le_of_ble_eq_true rfl)⟩) [] rfl (by decide) rfl hl.1 rfl (lv_room (Nat.le_of_ble_eq_true rfl)) dX10_addClip_17 ⟨(Nat.le_of_ble_eq_true rfl), (Nat.le_of_ble_eq_true rfl)⟩) hP hD hS hA (fun u9 H locs hP hS => ?_)
  refine lv_if_eq (tgt := 59) hx hb dX10_addClip_20 (by decide) (fun _ => ?_) (fun h => absurd (by decide) h)
  refine lv_iconst (v := 0) hx hb dX10_addClip_59 (by decide) ?_
  refine lv_istore (lv' := [(6, .int 0), (0, .ref q1), (1, .int x2), (2, .int x3), (3, .int x4), (4, .int x5), (5, .int x6)]) hx hb dX10_addClip_60 hl (by decide) rfl (fun ls hl => ?_)
  refine lv_iload hx hb dX10_addClip_62 (lv_at hl 0 rfl) ?_
  refine lv_if_ne (tgt := 73) hx hb dX10_addClip_64 (by decide) (fun h => absurd h (by decide)) (fun _ => ?_)
  refine lv_aload_n hx hb dX10_addClip_67 rfl (lv_at hl 1 rfl) ?_
  refine lv_iconst (v := 1) hx hb dX10_addClip_68 (by decide) ?_
  refine g_i (wr := []) (rV (rest := []) hx hb hml hown hE hP hD 0 rfl rfl (c1475_X10_refuse l g q1 w7 w8 w9 w10 w11 w12 (.int 0) w14 w15 w16 w17 w18 w19 w20 w21 w22 w23 w24 w25 w26 w27 w28 w29 w30 w31 w32 w33 w34 w35 w36 w37 w38 w39 w40 w41 w42 w43 H.size) (kV_X10_refuse hE (e1474 hE) rfl rfl ⟨(Nat.le_of_ble_eq_true rfl), (Nat.le_of_ble_eq_true rfl)⟩) [0] rfl (by decide) rfl hl.1 rfl (lv_room (Nat.le_of_ble_eq_true rfl)) dX10_addClip_69 ⟨(Nat.le_of_ble_eq_true rfl), (Nat.le_of_ble_eq_true rfl)⟩) hP hD hS hA [0] [] rfl rfl (by decide) (by decide) (fun u3 H locs hP hD hS => ?_)
  have hP : va_P g.1 vwCl [(q1, .inr (12, [w7, w8, w9, w10, w11, w12, .int 1, w14, w15, w16, w17, w18, w19, w20, w21, w22, w23, w24, w25, w26, w27, w28, w29, w30, w31, w32, w33, w34, w35, w36, w37, w38, w39, w40, w41, w42, w43]))] H := hP
  have hD : va_D A [(q1, .inr (12, [w7, w8, w9, w10, w11, w12, .int 1, w14, w15, w16, w17, w18, w19, w20, w21, w22, w23, w24, w25, w26, w27, w28, w29, w30, w31, w32, w33, w34, w35, w36, w37, w38, w39, w40, w41, w42, w43]))] := hD
  exact x_zret hx hb hr rfl rfl hlocks hP hD hS hAe hsz (Nat.le_of_ble_eq_true rfl) (Nat.le_of_ble_eq_true rfl) (fun _ => 0) [0] (by decide) rfl dX10_addClip_72

set_option maxHeartbeats 4000000 in
set_option maxRecDepth 100000 in
theorem c1594_X9_requireRange (l : Launch) (g : gG) (hlx : l.stackTraces = false) (x1 : Int32) (h2 : (0 : Int32) ≤ x1) (h3 : (9999 : Int32) < x1) (sz : Nat) : vx_Met l yX9_requireRange [Cond.code yX9_requireRange cX9_requireRange 3 none] ({ frames := 6, cells := 1, slots := 6, locals := 100 } : Room) (va_Pc [.int x1, .int 0, .int 9999] (PZ g sz [])) NV (XW g [] sz "java/lang/IllegalArgumentException" []) 1 6 (va_A [] sz) := by
  refine ofX (by decide) (Nat.le_of_ble_eq_true rfl) rfl ?_
  intro p e s m args below meth c A ls hAe hsz hx hb hml hr hlocks hin hown hE hP hD hA hS hl hex hz
  have hown : s.vm.findClass RX9 = some m.cls := hown
  refine lv_iload_n hx hb dX9_requireRange_0 rfl (lv_at hl 0 rfl) ?_
  refine lv_iload_n hx hb dX9_requireRange_1 rfl (lv_at hl 1 rfl) ?_
  refine lv_icmp_lt (tgt := 10) hx hb dX9_requireRange_2 (by decide) (fun h => absurd h (i_nlt h2)) (fun _ => ?_)
  refine lv_iload_n hx hb dX9_requireRange_5 rfl (lv_at hl 0 rfl) ?_
  refine lv_iload_n hx hb dX9_requireRange_6 rfl (lv_at hl 2 rfl) ?_
  refine lv_icmp_le (tgt := 21) hx hb dX9_requireRange_7 (by decide) (fun h => absurd h (i_nle h3)) (fun _ => ?_)
  exact x_throwW (text := "a number is out of range") (names := ["java/lang/RuntimeException", "java/lang/Exception"]) hx hb hlx hown hE (by decide) (by decide) (e639 hE) (e20 hE) (by decide +kernel) (th_215 hE) tg_215_211 hz (by rw [hml]; exact hl.1) dX9_requireRange_10 dX9_requireRange_13 dX9_requireRange_14 dX9_requireRange_17 dX9_requireRange_20 hex (Nat.le_of_ble_eq_true rfl) (Nat.le_of_ble_eq_true rfl) (Nat.le_of_ble_eq_true rfl) (Nat.le_of_ble_eq_true rfl) hlocks hP hD hS hAe hsz (Nat.le_of_ble_eq_true rfl) (Nat.le_of_ble_eq_true rfl) [] (by decide) rfl

set_option maxHeartbeats 4000000 in
set_option maxRecDepth 100000 in
theorem c1595_X9_addClip (l : Launch) (g : gG) (hlx : l.stackTraces = false) (q1 : Nat) (x2 x3 x4 x5 x6 : Int32) (h7 : (0 : Int32) ≤ x2) (h8 : (9999 : Int32) < x2) (sz : Nat) : vx_Met l yX9_addClip [Cond.code yX9_addClip cX9_addClip 7 (some .int)] ({ frames := 7, cells := 1, slots := 6, locals := 122 } : Room) (va_Pc [.ref q1, .int x2, .int x3, .int x4, .int x5, .int x6] (PZ g sz [])) NI (XW g [] sz "java/lang/IllegalArgumentException" []) 1 6 (va_A [] sz) := by
  refine ofX (by decide) (Nat.le_of_ble_eq_true rfl) rfl ?_
  intro p e s m args below meth c A ls hAe hsz hx hb hml hr hlocks hin hown hE hP hD hA hS hl hex hz
  have hown : s.vm.findClass RX9 = some m.cls := hown
  refine lv_iload_n hx hb dX9_addClip_0 rfl (lv_at hl 1 rfl) ?_
  refine lv_iconst (v := 0) hx hb dX9_addClip_1 (by decide) ?_
  refine lv_sipush (v := 9999) hx hb dX9_addClip_2 (by decide) ?_
  refine gx_v (wr := []) (rSx (rest := []) hx hb hml hown hE hP hD hS hA hz (c1594_X9_requireRange l g hlx x2 h7 h8 s.heap.size) (kS_X9_requireRange hE (e636 hE) rfl rfl ⟨(Nat.le_of_ble_eq_true rfl), (Nat.le_of_ble_eq_true rfl)⟩) [] rfl (by decide) rfl hl.1 rfl (lv_room (Nat.le_of_ble_eq_true rfl)) dX9_addClip_5 ⟨(Nat.le_of_ble_eq_true rfl), (Nat.le_of_ble_eq_true rfl)⟩) hP hD hS hA [] [] rfl rfl (by decide) (by decide) (fun ce9 q9 H locs hP hD hS hq1 hq2 hq3 => ?_)
  exact x_out hex hlocks hq1 hq2 hq3 hP hD hS hAe hsz (Nat.le_of_ble_eq_true rfl) (Nat.le_of_ble_eq_true rfl) [] (by decide) rfl

set_option maxHeartbeats 4000000 in
set_option maxRecDepth 100000 in
theorem c1596_L_addClip (l : Launch) (g : gG) (hlx : l.stackTraces = false) (q1 q7 : Nat) (x2 x3 x4 x5 x6 : Int32) (w10 w11 w12 w13 w14 w15 w16 w17 w18 w19 w20 : Value) (h8 : (0 : Int32) ≤ x2) (h9 : (9999 : Int32) < x2) (sz : Nat) : Met l yL_addClip [Cond.codeWith yL_addClip cL_addClip 8 (some .int) [(0, 16, 19, 15), (0, 16, 23, 17)]] ({ frames := 8, cells := 1, slots := 6, locals := 148 } : Room) (va_Pc [.ref q1, .int x2, .int x3, .int x4, .int x5, .int x6, .ref q7] (PZ g sz [(q1, .inr (11, [w10, w11, w12, w13, w14, w15, w16, w17, w18, w19, w20]))])) (QI g [(q1, .inr (11, [w10, w11, w12, w13, w14, w15, w16, w17, w18, w19, w20]))] sz 1 (fun _ => [])) 1 6 (va_A [(q1, .inr (11, [w10, w11, w12, w13, w14, w15, w16, w17, w18, w19, w20]))] sz) := by
  refine ofH (by decide) (Nat.le_of_ble_eq_true rfl) rfl ?_
  intro p e s m args below meth c A ls hAe hsz hx hb hml hr hlocks hin hown hE hP hD hA hS hl htb hz
  have hown : s.vm.findClass RL = some m.cls := hown
  refine lv_aload hx hb dL_addClip_0 (lv_at hl 6 rfl) ?_
  refine lv_iconst (v := 0) hx hb dL_addClip_2 (by decide) ?_
  refine lv_aload_n hx hb dL_addClip_3 rfl (lv_at hl 0 rfl) ?_
  refine lv_iload_n hx hb dL_addClip_4 rfl (lv_at hl 1 rfl) ?_
  refine lv_iload_n hx hb dL_addClip_5 rfl (lv_at hl 2 rfl) ?_
  refine lv_iload_n hx hb dL_addClip_6 rfl (lv_at hl 3 rfl) ?_
  refine lv_iload hx hb dL_addClip_7 (lv_at hl 4 rfl) ?_
  refine lv_iload hx hb dL_addClip_9 (lv_at hl 5 rfl) ?_
  refine gx_i (wr := [(q1, .inr (11, [w10, w11, w12, w13, w14, w15, w16, w17, w18, w19, w20]))]) (rVx (rest := [.int 0, .ref q7]) hx hb hml hown hE hP hD hS hA hz 0 rfl rfl (c1595_X9_addClip l g hlx q1 x2 x3 x4 x5 x6 h8 h9 s.heap.size) (kV_X9_addClip hE (e803 hE) rfl rfl ⟨(Nat.le_of_ble_eq_true rfl), (Nat.le_of_ble_eq_true rfl)⟩) [] rfl (by decide) rfl hl.1 rfl (lv_room (Nat.le_of_ble_eq_true rfl)) dL_addClip_11 ⟨(Nat.le_of_ble_eq_true rfl), (Nat.le_of_ble_eq_true rfl)⟩) hP hD hS hA [] [0] rfl rfl (by decide) (by decide) (fun ce9 q9 H locs hP hD hS hq1 hq2 hq3 => ?_)
  have hP : va_P g.1 vwCl [(q1, .inr (11, [w10, w11, w12, w13, w14, w15, w16, w17, w18, w19, w20]))] H := hP
  have hD : va_D A [(q1, .inr (11, [w10, w11, w12, w13, w14, w15, w16, w17, w18, w19, w20]))] := hD
  refine x_catch (name := "java/lang/IllegalArgumentException") (hh := [(0, 16, 19, 15), (0, 16, 23, 17)]) (tgt := 19) hown htb [] ⟨0, 16, 19, 15⟩ [⟨0, 16, 23, 17⟩] rfl (fun _ h => nomatch h) rfl (by decide) (e611 hE) (e641 hE) hq1 hq2 hq3 rfl ?_
  refine lv_astore (lv' := [(7, .ref q9), (0, .ref q1), (1, .int x2), (2, .int x3), (3, .int x4), (4, .int x5), (5, .int x6), (6, .ref q7)]) hx hb dL_addClip_19 hl (by decide) rfl (fun ls hl => ?_)
  refine lv_iconst (v := 1) hx hb dL_addClip_21 (by decide) ?_
  exact x_zret hx hb hr rfl rfl hlocks hP hD hS hAe hsz (Nat.le_of_ble_eq_true rfl) (Nat.le_of_ble_eq_true rfl) (fun _ => 0) [] (by decide) rfl dL_addClip_22

set_option maxHeartbeats 4000000 in
set_option maxRecDepth 100000 in
theorem c1597_X10_in (l : Launch) (g : gG) (x1 : Int32) (h2 : (0 : Int32) ≤ x1) (h3 : (9999 : Int32) < x1) (sz : Nat) : Met l yX10_in [Cond.code yX10_in cX10_in 3 (some .boolean)] ({ frames := 0, cells := 0, slots := 0, locals := 0 } : Room) (va_Pc [.int x1, .int 0, .int 9999] (PX g sz [])) (QI g [] sz 0 (fun _ => [])) 0 0 (va_A [] sz) := by
  refine ofN (by decide) (Nat.le_of_ble_eq_true rfl) rfl ?_
  intro p e s m args below meth c A ls hAe hsz hx hb hml hr hlocks hin hown hE hP hD hA hS hl
  have hown : s.vm.findClass RX10 = some m.cls := hown
  refine lv_iload_n hx hb dX10_in_0 rfl (lv_at hl 0 rfl) ?_
  refine lv_iload_n hx hb dX10_in_1 rfl (lv_at hl 1 rfl) ?_
  refine lv_icmp_lt (tgt := 14) hx hb dX10_in_2 (by decide) (fun h => absurd h (i_nlt h2)) (fun _ => ?_)
  refine lv_iload_n hx hb dX10_in_5 rfl (lv_at hl 0 rfl) ?_
  refine lv_iload_n hx hb dX10_in_6 rfl (lv_at hl 2 rfl) ?_
  refine lv_icmp_gt (tgt := 14) hx hb dX10_in_7 (by decide) (fun _ => ?_) (fun h => absurd h3 h)
  refine lv_iconst (v := 0) hx hb dX10_in_14 (by decide) ?_
  exact x_zret hx hb hr rfl rfl hlocks hP hD hS hAe hsz (Nat.le_of_ble_eq_true rfl) (Nat.le_of_ble_eq_true rfl) (fun _ => 0) [] (by decide) rfl dX10_in_15

set_option maxHeartbeats 4000000 in
set_option maxRecDepth 100000 in
theorem c1598_X10_addClip (l : Launch) (g : gG) (q1 : Nat) (x2 x3 x4 x5 x6 : Int32) (w7 w8 w9 w10 w11 w12 w13 w14 w15 w16 w17 w18 w19 w20 w21 w22 w23 w24 w25 w26 w27 w28 w29 w30 w31 w32 w33 w34 w35 w36 w37 w38 w39 w40 w41 w42 w43 : Value) (h44 : (0 : Int32) ≤ x2) (h45 : (9999 : Int32) < x2) (sz : Nat) : Met l yX10_addClip [Cond.code yX10_addClip cX10_addClip 8 (some .int)] ({ frames := 1, cells := 0, slots := 0, locals := 22 } : Room) (va_Pc [.ref q1, .int x2, .int x3, .int x4, .int x5, .int x6] (PX g sz [(q1, .inr (12, [w7, w8, w9, w10, w11, w12, w13, w14, w15, w16, w17, w18, w19, w20, w21, w22, w23, w24, w25, w26, w27, w28, w29, w30, w31, w32, w33, w34, w35, w36, w37, w38, w39, w40, w41, w42, w43]))])) (QI g [(q1, .inr (12, [w7, w8, w9, w10, w11, w12, w13, w14, w15, w16, w17, w18, w19, w20, w21, w22, w23, w24, w25, w26, w27, w28, w29, w30, w31, w32, w33, w34, w35, w36, w37, w38, w39, w40, w41, w42, w43]))] sz 0 (fun _ => [(q1, .inr (12, [w7, w8, w9, w10, w11, w12, .int 1, w14, w15, w16, w17, w18, w19, w20, w21, w22, w23, w24, w25, w26, w27, w28, w29, w30, w31, w32, w33, w34, w35, w36, w37, w38, w39, w40, w41, w42, w43]))])) 0 0 (va_A [(q1, .inr (12, [w7, w8, w9, w10, w11, w12, w13, w14, w15, w16, w17, w18, w19, w20, w21, w22, w23, w24, w25, w26, w27, w28, w29, w30, w31, w32, w33, w34, w35, w36, w37, w38, w39, w40, w41, w42, w43]))] sz) := by
  refine ofN (by decide) (Nat.le_of_ble_eq_true rfl) rfl ?_
  intro p e s m args below meth c A ls hAe hsz hx hb hml hr hlocks hin hown hE hP hD hA hS hl
  have hown : s.vm.findClass RX10 = some m.cls := hown
  refine lv_aload_n hx hb dX10_addClip_0 rfl (lv_at hl 0 rfl) ?_
  refine lv_iconst (v := 0) hx hb dX10_addClip_1 (by decide) ?_
  refine pf_RX10_86 (ws' := [(q1, .inr (12, [w7, w8, w9, w10, w11, w12, .int 0, w14, w15, w16, w17, w18, w19, w20, w21, w22, w23, w24, w25, w26, w27, w28, w29, w30, w31, w32, w33, w34, w35, w36, w37, w38, w39, w40, w41, w42, w43]))]) hx hb hown hE hP hD hS 0 rfl rfl rfl (Nat.le_of_ble_eq_true rfl) dX10_addClip_2 rfl (fun H locs hP hD hS => ?_)
  refine lv_iload_n hx hb dX10_addClip_5 rfl (lv_at hl 1 rfl) ?_
  refine lv_iconst (v := 0) hx hb dX10_addClip_6 (by decide) ?_
  refine lv_sipush (v := 9999) hx hb dX10_addClip_7 (by decide) ?_
  refine g0_i (rS (rest := []) hx hb hml hown hE hP hD (c1597_X10_in l g x2 h44 h45 H.size) (kS_X10_in hE (e1431 hE) rfl rfl ⟨(Nat.le_of_ble_eq_true rfl), (Nat.le_of_ble_eq_true rfl)⟩) [] rfl (by decide) rfl hl.1 rfl (lv_room (Nat.le_of_ble_eq_true rfl)) dX10_addClip_10 ⟨(Nat.le_of_ble_eq_true rfl), (Nat.le_of_ble_eq_true rfl)⟩) hP hD hS hA (fun u9 H locs hP hS => ?_)
  refine lv_if_eq (tgt := 59) hx hb dX10_addClip_13 (by decide) (fun _ => ?_) (fun h => absurd (by decide) h)
  refine lv_iconst (v := 0) hx hb dX10_addClip_59 (by decide) ?_
  refine lv_istore (lv' := [(6, .int 0), (0, .ref q1), (1, .int x2), (2, .int x3), (3, .int x4), (4, .int x5), (5, .int x6)]) hx hb dX10_addClip_60 hl (by decide) rfl (fun ls hl => ?_)
  refine lv_iload hx hb dX10_addClip_62 (lv_at hl 0 rfl) ?_
  refine lv_if_ne (tgt := 73) hx hb dX10_addClip_64 (by decide) (fun h => absurd h (by decide)) (fun _ => ?_)
  refine lv_aload_n hx hb dX10_addClip_67 rfl (lv_at hl 1 rfl) ?_
  refine lv_iconst (v := 1) hx hb dX10_addClip_68 (by decide) ?_
  refine g_i (wr := []) (rV (rest := []) hx hb hml hown hE hP hD 0 rfl rfl (c1475_X10_refuse l g q1 w7 w8 w9 w10 w11 w12 (.int 0) w14 w15 w16 w17 w18 w19 w20 w21 w22 w23 w24 w25 w26 w27 w28 w29 w30 w31 w32 w33 w34 w35 w36 w37 w38 w39 w40 w41 w42 w43 H.size) (kV_X10_refuse hE (e1474 hE) rfl rfl ⟨(Nat.le_of_ble_eq_true rfl), (Nat.le_of_ble_eq_true rfl)⟩) [0] rfl (by decide) rfl hl.1 rfl (lv_room (Nat.le_of_ble_eq_true rfl)) dX10_addClip_69 ⟨(Nat.le_of_ble_eq_true rfl), (Nat.le_of_ble_eq_true rfl)⟩) hP hD hS hA [0] [] rfl rfl (by decide) (by decide) (fun u2 H locs hP hD hS => ?_)
  have hP : va_P g.1 vwCl [(q1, .inr (12, [w7, w8, w9, w10, w11, w12, .int 1, w14, w15, w16, w17, w18, w19, w20, w21, w22, w23, w24, w25, w26, w27, w28, w29, w30, w31, w32, w33, w34, w35, w36, w37, w38, w39, w40, w41, w42, w43]))] H := hP
  have hD : va_D A [(q1, .inr (12, [w7, w8, w9, w10, w11, w12, .int 1, w14, w15, w16, w17, w18, w19, w20, w21, w22, w23, w24, w25, w26, w27, w28, w29, w30, w31, w32, w33, w34, w35, w36, w37, w38, w39, w40, w41, w42, w43]))] := hD
  exact x_zret hx hb hr rfl rfl hlocks hP hD hS hAe hsz (Nat.le_of_ble_eq_true rfl) (Nat.le_of_ble_eq_true rfl) (fun _ => 0) [0] (by decide) rfl dX10_addClip_72

set_option maxHeartbeats 4000000 in
set_option maxRecDepth 100000 in
theorem c1599_X9_requireClip (l : Launch) (g : gG) (hlx : l.stackTraces = false) (q1 q14 q18 q21 : Nat) (x2 : Int32) (w4 w5 w6 w7 w8 w9 w10 w11 w12 w13 w17 w22 w23 w24 w25 w27 w28 : Value) (f19 : Nat → Option Nat) (hf20 : f19 0 = some q21) (h29 : x2 < 0) (sz : Nat) : vx_Met l yX9_requireClip [Cond.code yX9_requireClip cX9_requireClip 2 none] ({ frames := 7, cells := 1, slots := 6, locals := 121 } : Room) (va_Pc [.ref q1, .int x2] (PZ g sz [(q21, .inr (8, [w22, w23, w24, w25, .int 0, w27, w28])), (q18, .inl (g.2 3, 10, .inr (.inr (.inr (.inr f19))))), (q14, .inr (10, [.ref q18, .int 0, w17])), (q1, .inr (11, [.ref q14, w4, w5, w6, w7, w8, w9, w10, w11, w12, w13]))])) NV (XW g [(q21, .inr (8, [w22, w23, w24, w25, .int 0, w27, w28])), (q18, .inl (g.2 3, 10, .inr (.inr (.inr (.inr f19))))), (q14, .inr (10, [.ref q18, .int 0, w17])), (q1, .inr (11, [.ref q14, w4, w5, w6, w7, w8, w9, w10, w11, w12, w13]))] sz "java/lang/IndexOutOfBoundsException" [(q1, .inr (11, [.ref q14, w4, w5, w6, w7, w8, w9, w10, w11, w12, w13])), (q18, .inl (g.2 3, 10, .inr (.inr (.inr (.inr f19))))), (q14, .inr (10, [.ref q18, .int 0, w17])), (q21, .inr (8, [w22, w23, w24, w25, .int 0, w27, w28]))]) 1 6 (va_A [(q21, .inr (8, [w22, w23, w24, w25, .int 0, w27, w28])), (q18, .inl (g.2 3, 10, .inr (.inr (.inr (.inr f19))))), (q14, .inr (10, [.ref q18, .int 0, w17])), (q1, .inr (11, [.ref q14, w4, w5, w6, w7, w8, w9, w10, w11, w12, w13]))] sz) := by
  refine ofX (by decide) (Nat.le_of_ble_eq_true rfl) rfl ?_
  intro p e s m args below meth c A ls hAe hsz hx hb hml hr hlocks hin hown hE hP hD hA hS hl hex hz
  have hown : s.vm.findClass RX9 = some m.cls := hown
  refine lv_iload_n hx hb dX9_requireClip_0 rfl (lv_at hl 1 rfl) ?_
  refine lv_aload_n hx hb dX9_requireClip_1 rfl (lv_at hl 0 rfl) ?_
  refine gf_RX9_12 hx hb hown hE hP 3 rfl rfl dX9_requireClip_2 ?_
  refine g_r (wr := [(q21, .inr (8, [w22, w23, w24, w25, .int 0, w27, w28])), (q1, .inr (11, [.ref q14, w4, w5, w6, w7, w8, w9, w10, w11, w12, w13]))]) (rV (rest := [.int x2]) hx hb hml hown hE hP hD 2 rfl rfl (c71_X8_current l g q14 q18 q21 w17 f19 (hf20) s.heap.size) (kV_X8_current hE (e290 hE) rfl rfl ⟨(Nat.le_of_ble_eq_true rfl), (Nat.le_of_ble_eq_true rfl)⟩) [1, 2] rfl (by decide) rfl hl.1 rfl (lv_room (Nat.le_of_ble_eq_true rfl)) dX9_requireClip_5 ⟨(Nat.le_of_ble_eq_true rfl), (Nat.le_of_ble_eq_true rfl)⟩) hP hD hS hA [1, 2] [0, 3] rfl rfl (by decide) (by decide) (fun u1 H locs hP hD hS => ?_)
  have hP : va_P g.1 vwCl [(q21, .inr (8, [w22, w23, w24, w25, .int 0, w27, w28])), (q1, .inr (11, [.ref q14, w4, w5, w6, w7, w8, w9, w10, w11, w12, w13])), (q18, .inl (g.2 3, 10, .inr (.inr (.inr (.inr f19))))), (q14, .inr (10, [.ref q18, .int 0, w17]))] H := hP
  have hD : va_D A [(q21, .inr (8, [w22, w23, w24, w25, .int 0, w27, w28])), (q1, .inr (11, [.ref q14, w4, w5, w6, w7, w8, w9, w10, w11, w12, w13])), (q18, .inl (g.2 3, 10, .inr (.inr (.inr (.inr f19))))), (q14, .inr (10, [.ref q18, .int 0, w17]))] := hD
  refine g_i (wr := [(q1, .inr (11, [.ref q14, w4, w5, w6, w7, w8, w9, w10, w11, w12, w13])), (q18, .inl (g.2 3, 10, .inr (.inr (.inr (.inr f19))))), (q14, .inr (10, [.ref q18, .int 0, w17]))]) (rV (rest := [.int x2]) hx hb hml hown hE hP hD 0 rfl rfl (c72_X6_clipCount l g q21 w22 w23 w24 w25 w27 w28 H.size) (kV_X6_clipCount hE (e297 hE) rfl rfl ⟨(Nat.le_of_ble_eq_true rfl), (Nat.le_of_ble_eq_true rfl)⟩) [0] rfl (by decide) rfl hl.1 rfl (lv_room (Nat.le_of_ble_eq_true rfl)) dX9_requireClip_8 ⟨(Nat.le_of_ble_eq_true rfl), (Nat.le_of_ble_eq_true rfl)⟩) hP hD hS hA [0] [1, 2, 3] rfl rfl (by decide) (by decide) (fun u2 H locs hP hD hS => ?_)
  have hP : va_P g.1 vwCl [(q1, .inr (11, [.ref q14, w4, w5, w6, w7, w8, w9, w10, w11, w12, w13])), (q18, .inl (g.2 3, 10, .inr (.inr (.inr (.inr f19))))), (q14, .inr (10, [.ref q18, .int 0, w17])), (q21, .inr (8, [w22, w23, w24, w25, .int 0, w27, w28]))] H := hP
  have hD : va_D A [(q1, .inr (11, [.ref q14, w4, w5, w6, w7, w8, w9, w10, w11, w12, w13])), (q18, .inl (g.2 3, 10, .inr (.inr (.inr (.inr f19))))), (q14, .inr (10, [.ref q18, .int 0, w17])), (q21, .inr (8, [w22, w23, w24, w25, .int 0, w27, w28]))] := hD
  refine gx_v (wr := [(q1, .inr (11, [.ref q14, w4, w5, w6, w7, w8, w9, w10, w11, w12, w13])), (q18, .inl (g.2 3, 10, .inr (.inr (.inr (.inr f19))))), (q14, .inr (10, [.ref q18, .int 0, w17])), (q21, .inr (8, [w22, w23, w24, w25, .int 0, w27, w28]))]) (rSx (rest := []) hx hb hml hown hE hP hD hS hA hz (c1164_X9_requireIndex l g hlx x2 h29 H.size) (kS_X9_requireIndex hE (e620 hE) rfl rfl ⟨(Nat.le_of_ble_eq_true rfl), (Nat.le_of_ble_eq_true rfl)⟩) [] rfl (by decide) rfl hl.1 rfl (lv_room (Nat.le_of_ble_eq_true rfl)) dX9_requireClip_11 ⟨(Nat.le_of_ble_eq_true rfl), (Nat.le_of_ble_eq_true rfl)⟩) hP hD hS hA [] [0, 1, 2, 3] rfl rfl (by decide) (by decide) (fun ce9 q9 H locs hP hD hS hq1 hq2 hq3 => ?_)
  exact x_out hex hlocks hq1 hq2 hq3 hP hD hS hAe hsz (Nat.le_of_ble_eq_true rfl) (Nat.le_of_ble_eq_true rfl) [0, 1, 2, 3] (by decide) rfl

set_option maxHeartbeats 4000000 in
set_option maxRecDepth 100000 in
theorem c1600_X9_removeClip (l : Launch) (g : gG) (hlx : l.stackTraces = false) (q1 q14 q18 q21 : Nat) (x2 : Int32) (w4 w5 w6 w7 w8 w9 w10 w11 w12 w13 w17 w22 w23 w24 w25 w27 w28 : Value) (f19 : Nat → Option Nat) (hf20 : f19 0 = some q21) (h29 : x2 < 0) (sz : Nat) : vx_Met l yX9_removeClip [Cond.code yX9_removeClip cX9_removeClip 3 (some .int)] ({ frames := 8, cells := 1, slots := 6, locals := 142 } : Room) (va_Pc [.ref q1, .int x2] (PZ g sz [(q21, .inr (8, [w22, w23, w24, w25, .int 0, w27, w28])), (q18, .inl (g.2 3, 10, .inr (.inr (.inr (.inr f19))))), (q14, .inr (10, [.ref q18, .int 0, w17])), (q1, .inr (11, [.ref q14, w4, w5, w6, w7, w8, w9, w10, w11, w12, w13]))])) NI (XW g [(q21, .inr (8, [w22, w23, w24, w25, .int 0, w27, w28])), (q18, .inl (g.2 3, 10, .inr (.inr (.inr (.inr f19))))), (q14, .inr (10, [.ref q18, .int 0, w17])), (q1, .inr (11, [.ref q14, w4, w5, w6, w7, w8, w9, w10, w11, w12, w13]))] sz "java/lang/IndexOutOfBoundsException" [(q1, .inr (11, [.ref q14, w4, w5, w6, w7, w8, w9, w10, w11, w12, w13])), (q18, .inl (g.2 3, 10, .inr (.inr (.inr (.inr f19))))), (q14, .inr (10, [.ref q18, .int 0, w17])), (q21, .inr (8, [w22, w23, w24, w25, .int 0, w27, w28]))]) 1 6 (va_A [(q21, .inr (8, [w22, w23, w24, w25, .int 0, w27, w28])), (q18, .inl (g.2 3, 10, .inr (.inr (.inr (.inr f19))))), (q14, .inr (10, [.ref q18, .int 0, w17])), (q1, .inr (11, [.ref q14, w4, w5, w6, w7, w8, w9, w10, w11, w12, w13]))] sz) := by
  refine ofX (by decide) (Nat.le_of_ble_eq_true rfl) rfl ?_
  intro p e s m args below meth c A ls hAe hsz hx hb hml hr hlocks hin hown hE hP hD hA hS hl hex hz
  have hown : s.vm.findClass RX9 = some m.cls := hown
  refine lv_aload_n hx hb dX9_removeClip_0 rfl (lv_at hl 0 rfl) ?_
  refine lv_iload_n hx hb dX9_removeClip_1 rfl (lv_at hl 1 rfl) ?_
  refine gx_v (wr := []) (rVx (rest := []) hx hb hml hown hE hP hD hS hA hz 3 rfl rfl (c1599_X9_requireClip l g hlx q1 q14 q18 q21 x2 w4 w5 w6 w7 w8 w9 w10 w11 w12 w13 w17 w22 w23 w24 w25 w27 w28 f19 (hf20) h29 s.heap.size) (kV_X9_requireClip hE (e819 hE) rfl rfl ⟨(Nat.le_of_ble_eq_true rfl), (Nat.le_of_ble_eq_true rfl)⟩) [0, 1, 2, 3] rfl (by decide) rfl hl.1 rfl (lv_room (Nat.le_of_ble_eq_true rfl)) dX9_removeClip_2 ⟨(Nat.le_of_ble_eq_true rfl), (Nat.le_of_ble_eq_true rfl)⟩) hP hD hS hA [0, 1, 2, 3] [] rfl rfl (by decide) (by decide) (fun ce9 q9 H locs hP hD hS hq1 hq2 hq3 => ?_)
  exact x_out hex hlocks hq1 hq2 hq3 hP hD hS hAe hsz (Nat.le_of_ble_eq_true rfl) (Nat.le_of_ble_eq_true rfl) [0, 1, 2, 3] (by decide) rfl

set_option maxHeartbeats 4000000 in
set_option maxRecDepth 100000 in
theorem c1601_L_removeClip (l : Launch) (g : gG) (hlx : l.stackTraces = false) (q1 q3 q15 q19 q22 : Nat) (x2 : Int32) (w5 w6 w7 w8 w9 w10 w11 w12 w13 w14 w18 w23 w24 w25 w26 w28 w29 : Value) (f20 : Nat → Option Nat) (hf21 : f20 0 = some q22) (h30 : x2 < 0) (sz : Nat) : Met l yL_removeClip [Cond.codeWith yL_removeClip cL_removeClip 4 (some .int) [(0, 9, 12, 13)]] ({ frames := 9, cells := 1, slots := 6, locals := 164 } : Room) (va_Pc [.ref q1, .int x2, .ref q3] (PZ g sz [(q22, .inr (8, [w23, w24, w25, w26, .int 0, w28, w29])), (q19, .inl (g.2 3, 10, .inr (.inr (.inr (.inr f20))))), (q15, .inr (10, [.ref q19, .int 0, w18])), (q1, .inr (11, [.ref q15, w5, w6, w7, w8, w9, w10, w11, w12, w13, w14]))])) (QI g [(q22, .inr (8, [w23, w24, w25, w26, .int 0, w28, w29])), (q19, .inl (g.2 3, 10, .inr (.inr (.inr (.inr f20))))), (q15, .inr (10, [.ref q19, .int 0, w18])), (q1, .inr (11, [.ref q15, w5, w6, w7, w8, w9, w10, w11, w12, w13, w14]))] sz 1 (fun _ => [])) 1 6 (va_A [(q22, .inr (8, [w23, w24, w25, w26, .int 0, w28, w29])), (q19, .inl (g.2 3, 10, .inr (.inr (.inr (.inr f20))))), (q15, .inr (10, [.ref q19, .int 0, w18])), (q1, .inr (11, [.ref q15, w5, w6, w7, w8, w9, w10, w11, w12, w13, w14]))] sz) := by
  refine ofH (by decide) (Nat.le_of_ble_eq_true rfl) rfl ?_
  intro p e s m args below meth c A ls hAe hsz hx hb hml hr hlocks hin hown hE hP hD hA hS hl htb hz
  have hown : s.vm.findClass RL = some m.cls := hown
  refine lv_aload_n hx hb dL_removeClip_0 rfl (lv_at hl 2 rfl) ?_
  refine lv_iconst (v := 0) hx hb dL_removeClip_1 (by decide) ?_
  refine lv_aload_n hx hb dL_removeClip_2 rfl (lv_at hl 0 rfl) ?_
  refine lv_iload_n hx hb dL_removeClip_3 rfl (lv_at hl 1 rfl) ?_
  refine gx_i (wr := []) (rVx (rest := [.int 0, .ref q3]) hx hb hml hown hE hP hD hS hA hz 3 rfl rfl (c1600_X9_removeClip l g hlx q1 q15 q19 q22 x2 w5 w6 w7 w8 w9 w10 w11 w12 w13 w14 w18 w23 w24 w25 w26 w28 w29 f20 (hf21) h30 s.heap.size) (kV_X9_removeClip hE (e815 hE) rfl rfl ⟨(Nat.le_of_ble_eq_true rfl), (Nat.le_of_ble_eq_true rfl)⟩) [0, 1, 2, 3] rfl (by decide) rfl hl.1 rfl (lv_room (Nat.le_of_ble_eq_true rfl)) dL_removeClip_4 ⟨(Nat.le_of_ble_eq_true rfl), (Nat.le_of_ble_eq_true rfl)⟩) hP hD hS hA [0, 1, 2, 3] [] rfl rfl (by decide) (by decide) (fun ce9 q9 H locs hP hD hS hq1 hq2 hq3 => ?_)
  have hP : va_P g.1 vwCl [(q1, .inr (11, [.ref q15, w5, w6, w7, w8, w9, w10, w11, w12, w13, w14])), (q19, .inl (g.2 3, 10, .inr (.inr (.inr (.inr f20))))), (q15, .inr (10, [.ref q19, .int 0, w18])), (q22, .inr (8, [w23, w24, w25, w26, .int 0, w28, w29]))] H := hP
  have hD : va_D A [(q1, .inr (11, [.ref q15, w5, w6, w7, w8, w9, w10, w11, w12, w13, w14])), (q19, .inl (g.2 3, 10, .inr (.inr (.inr (.inr f20))))), (q15, .inr (10, [.ref q19, .int 0, w18])), (q22, .inr (8, [w23, w24, w25, w26, .int 0, w28, w29]))] := hD
  refine x_catch (name := "java/lang/IndexOutOfBoundsException") (hh := [(0, 9, 12, 13)]) (tgt := 12) hown htb [] ⟨0, 9, 12, 13⟩ [] rfl (fun _ h => nomatch h) rfl (by decide) (e532 hE) (e625 hE) hq1 hq2 hq3 rfl ?_
  refine lv_astore_n (lv' := [(3, .ref q9), (0, .ref q1), (1, .int x2), (2, .ref q3)]) hx hb dL_removeClip_12 rfl hl (by decide) rfl (fun ls hl => ?_)
  refine lv_iconst (v := 1) hx hb dL_removeClip_13 (by decide) ?_
  exact x_zret hx hb hr rfl rfl hlocks hP hD hS hAe hsz (Nat.le_of_ble_eq_true rfl) (Nat.le_of_ble_eq_true rfl) (fun _ => 0) [] (by decide) rfl dL_removeClip_14

set_option maxHeartbeats 4000000 in
set_option maxRecDepth 100000 in
theorem c1602_X10_isClip (l : Launch) (g : gG) (q1 q40 : Nat) (x2 : Int32) (w4 w5 w6 w7 w8 w9 w10 w11 w12 w13 w14 w15 w16 w17 w18 w19 w20 w21 w22 w23 w24 w25 w26 w27 w28 w29 w30 w31 w32 w33 w34 w35 w36 w37 w38 w39 : Value) (f41 : Nat → Int32) (hf42 : f41 392 = 0) (h43 : x2 < 0) (sz : Nat) : Met l yX10_isClip [Cond.code yX10_isClip cX10_isClip 2 (some .boolean)] ({ frames := 1, cells := 0, slots := 0, locals := 22 } : Room) (va_Pc [.ref q1, .int x2] (PX g sz [(q40, .inl (g.2 0, 497, .inl f41)), (q1, .inr (12, [.ref q40, w4, w5, w6, w7, w8, w9, w10, w11, w12, w13, w14, w15, w16, w17, w18, w19, w20, w21, w22, w23, w24, w25, w26, w27, w28, w29, w30, w31, w32, w33, w34, w35, w36, w37, w38, w39]))])) (QI g [(q40, .inl (g.2 0, 497, .inl f41)), (q1, .inr (12, [.ref q40, w4, w5, w6, w7, w8, w9, w10, w11, w12, w13, w14, w15, w16, w17, w18, w19, w20, w21, w22, w23, w24, w25, w26, w27, w28, w29, w30, w31, w32, w33, w34, w35, w36, w37, w38, w39]))] sz 0 (fun _ => [(q40, .inl (g.2 0, 497, .inl f41)), (q1, .inr (12, [.ref q40, w4, w5, w6, w7, w8, w9, w10, w11, w12, w13, w14, w15, w16, w17, w18, w19, w20, w21, w22, w23, w24, w25, w26, w27, w28, w29, w30, w31, w32, w33, w34, w35, w36, w37, w38, w39]))])) 0 0 (va_A [(q40, .inl (g.2 0, 497, .inl f41)), (q1, .inr (12, [.ref q40, w4, w5, w6, w7, w8, w9, w10, w11, w12, w13, w14, w15, w16, w17, w18, w19, w20, w21, w22, w23, w24, w25, w26, w27, w28, w29, w30, w31, w32, w33, w34, w35, w36, w37, w38, w39]))] sz) := by
  refine ofN (by decide) (Nat.le_of_ble_eq_true rfl) rfl ?_
  intro p e s m args below meth c A ls hAe hsz hx hb hml hr hlocks hin hown hE hP hD hA hS hl
  have hown : s.vm.findClass RX10 = some m.cls := hown
  refine lv_iload_n hx hb dX10_isClip_0 rfl (lv_at hl 1 rfl) ?_
  refine lv_iconst (v := 0) hx hb dX10_isClip_1 (by decide) ?_
  refine lv_aload_n hx hb dX10_isClip_2 rfl (lv_at hl 0 rfl) ?_
  refine gf_RX10_9 hx hb hown hE hP 1 rfl rfl dX10_isClip_3 ?_
  refine lv_sipush (v := 392) hx hb dX10_isClip_6 (by decide) ?_
  refine x_iald (v := 0) hx hb hE hP 0 rfl 392 (x_in (by decide)) (by decide) hf42 dX10_isClip_9 ?_
  refine lv_iconst (v := 1) hx hb dX10_isClip_10 (by decide) ?_
  refine x_isub (v := (-1)) hx hb dX10_isClip_11 (by decide) ?_
  refine g0_i (rS (rest := []) hx hb hml hown hE hP hD (c642_X10_in l g x2 (-1) h43 s.heap.size) (kS_X10_in hE (e1431 hE) rfl rfl ⟨(Nat.le_of_ble_eq_true rfl), (Nat.le_of_ble_eq_true rfl)⟩) [] rfl (by decide) rfl hl.1 rfl (lv_room (Nat.le_of_ble_eq_true rfl)) dX10_isClip_12 ⟨(Nat.le_of_ble_eq_true rfl), (Nat.le_of_ble_eq_true rfl)⟩) hP hD hS hA (fun u9 H locs hP hS => ?_)
  exact x_zret hx hb hr rfl rfl hlocks hP hD hS hAe hsz (Nat.le_of_ble_eq_true rfl) (Nat.le_of_ble_eq_true rfl) (fun _ => 0) [0, 1] (by decide) rfl dX10_isClip_15

set_option maxHeartbeats 4000000 in
set_option maxRecDepth 100000 in
theorem c1603_X10_removeClip (l : Launch) (g : gG) (q1 q40 : Nat) (x2 : Int32) (w4 w5 w6 w7 w8 w9 w10 w11 w12 w13 w14 w15 w16 w17 w18 w19 w20 w21 w22 w23 w24 w25 w26 w27 w28 w29 w30 w31 w32 w33 w34 w35 w36 w37 w38 w39 : Value) (f41 : Nat → Int32) (hf42 : f41 392 = 0) (h43 : x2 < 0) (sz : Nat) : Met l yX10_removeClip [Cond.code yX10_removeClip cX10_removeClip 3 (some .int)] ({ frames := 2, cells := 0, slots := 0, locals := 43 } : Room) (va_Pc [.ref q1, .int x2] (PX g sz [(q40, .inl (g.2 0, 497, .inl f41)), (q1, .inr (12, [.ref q40, w4, w5, w6, w7, w8, w9, w10, w11, w12, w13, w14, w15, w16, w17, w18, w19, w20, w21, w22, w23, w24, w25, w26, w27, w28, w29, w30, w31, w32, w33, w34, w35, w36, w37, w38, w39]))])) (QI g [(q40, .inl (g.2 0, 497, .inl f41)), (q1, .inr (12, [.ref q40, w4, w5, w6, w7, w8, w9, w10, w11, w12, w13, w14, w15, w16, w17, w18, w19, w20, w21, w22, w23, w24, w25, w26, w27, w28, w29, w30, w31, w32, w33, w34, w35, w36, w37, w38, w39]))] sz 0 (fun _ => [(q1, .inr (12, [.ref q40, w4, w5, w6, w7, w8, .int 1, w10, w11, w12, w13, w14, w15, w16, w17, w18, w19, w20, w21, w22, w23, w24, w25, w26, w27, w28, w29, w30, w31, w32, w33, w34, w35, w36, w37, w38, w39]))])) 0 0 (va_A [(q40, .inl (g.2 0, 497, .inl f41)), (q1, .inr (12, [.ref q40, w4, w5, w6, w7, w8, w9, w10, w11, w12, w13, w14, w15, w16, w17, w18, w19, w20, w21, w22, w23, w24, w25, w26, w27, w28, w29, w30, w31, w32, w33, w34, w35, w36, w37, w38, w39]))] sz) := by
  refine ofN (by decide) (Nat.le_of_ble_eq_true rfl) rfl ?_
  intro p e s m args below meth c A ls hAe hsz hx hb hml hr hlocks hin hown hE hP hD hA hS hl
  have hown : s.vm.findClass RX10 = some m.cls := hown
  refine lv_aload_n hx hb dX10_removeClip_0 rfl (lv_at hl 0 rfl) ?_
  refine lv_aload_n hx hb dX10_removeClip_1 rfl (lv_at hl 0 rfl) ?_
  refine lv_iload_n hx hb dX10_removeClip_2 rfl (lv_at hl 1 rfl) ?_
  refine g_i (wr := []) (rV (rest := [.ref q1]) hx hb hml hown hE hP hD 1 rfl rfl (c1602_X10_isClip l g q1 q40 x2 w4 w5 w6 w7 w8 w9 w10 w11 w12 w13 w14 w15 w16 w17 w18 w19 w20 w21 w22 w23 w24 w25 w26 w27 w28 w29 w30 w31 w32 w33 w34 w35 w36 w37 w38 w39 f41 (hf42) h43 s.heap.size) (kV_X10_isClip hE (e1527 hE) rfl rfl ⟨(Nat.le_of_ble_eq_true rfl), (Nat.le_of_ble_eq_true rfl)⟩) [0, 1] rfl (by decide) rfl hl.1 rfl (lv_room (Nat.le_of_ble_eq_true rfl)) dX10_removeClip_3 ⟨(Nat.le_of_ble_eq_true rfl), (Nat.le_of_ble_eq_true rfl)⟩) hP hD hS hA [0, 1] [] rfl rfl (by decide) (by decide) (fun u1 H locs hP hD hS => ?_)
  have hP : va_P g.1 vwCl [(q40, .inl (g.2 0, 497, .inl f41)), (q1, .inr (12, [.ref q40, w4, w5, w6, w7, w8, w9, w10, w11, w12, w13, w14, w15, w16, w17, w18, w19, w20, w21, w22, w23, w24, w25, w26, w27, w28, w29, w30, w31, w32, w33, w34, w35, w36, w37, w38, w39]))] H := hP
  have hD : va_D A [(q40, .inl (g.2 0, 497, .inl f41)), (q1, .inr (12, [.ref q40, w4, w5, w6, w7, w8, w9, w10, w11, w12, w13, w14, w15, w16, w17, w18, w19, w20, w21, w22, w23, w24, w25, w26, w27, w28, w29, w30, w31, w32, w33, w34, w35, w36, w37, w38, w39]))] := hD
  refine lv_if_eq (tgt := 13) hx hb dX10_removeClip_6 (by decide) (fun _ => ?_) (fun h => absurd (by decide) h)
  refine lv_iconst (v := 1) hx hb dX10_removeClip_13 (by decide) ?_
  refine pf_RX10_86 (ws' := [(q40, .inl (g.2 0, 497, .inl f41)), (q1, .inr (12, [.ref q40, w4, w5, w6, w7, w8, .int 1, w10, w11, w12, w13, w14, w15, w16, w17, w18, w19, w20, w21, w22, w23, w24, w25, w26, w27, w28, w29, w30, w31, w32, w33, w34, w35, w36, w37, w38, w39]))]) hx hb hown hE hP hD hS 1 rfl rfl rfl (Nat.le_of_ble_eq_true rfl) dX10_removeClip_14 rfl (fun H locs hP hD hS => ?_)
  refine lv_aload_n hx hb dX10_removeClip_17 rfl (lv_at hl 0 rfl) ?_
  refine gf_RX10_86 hx hb hown hE hP 1 rfl rfl dX10_removeClip_18 ?_
  refine lv_if_le (tgt := 26) hx hb dX10_removeClip_21 (by decide) (fun h => absurd h (by decide)) (fun _ => ?_)
  refine lv_iconst (v := 0) hx hb dX10_removeClip_24 (by decide) ?_
  exact x_zret hx hb hr rfl rfl hlocks hP hD hS hAe hsz (Nat.le_of_ble_eq_true rfl) (Nat.le_of_ble_eq_true rfl) (fun _ => 0) [1] (by decide) rfl dX10_removeClip_25

set_option maxHeartbeats 4000000 in
set_option maxRecDepth 100000 in
theorem c1604_X9_requireClip (l : Launch) (g : gG) (hlx : l.stackTraces = false) (q1 q14 q18 q21 : Nat) (x2 : Int32) (w4 w5 w6 w7 w8 w9 w10 w11 w12 w13 w17 w22 w23 w24 w25 w27 w28 : Value) (f19 : Nat → Option Nat) (hf20 : f19 0 = some q21) (h29 : (0 : Int32) ≤ x2) (sz : Nat) : vx_Met l yX9_requireClip [Cond.code yX9_requireClip cX9_requireClip 2 none] ({ frames := 7, cells := 1, slots := 6, locals := 121 } : Room) (va_Pc [.ref q1, .int x2] (PZ g sz [(q21, .inr (8, [w22, w23, w24, w25, .int 0, w27, w28])), (q18, .inl (g.2 3, 10, .inr (.inr (.inr (.inr f19))))), (q14, .inr (10, [.ref q18, .int 0, w17])), (q1, .inr (11, [.ref q14, w4, w5, w6, w7, w8, w9, w10, w11, w12, w13]))])) NV (XW g [(q21, .inr (8, [w22, w23, w24, w25, .int 0, w27, w28])), (q18, .inl (g.2 3, 10, .inr (.inr (.inr (.inr f19))))), (q14, .inr (10, [.ref q18, .int 0, w17])), (q1, .inr (11, [.ref q14, w4, w5, w6, w7, w8, w9, w10, w11, w12, w13]))] sz "java/lang/IndexOutOfBoundsException" [(q1, .inr (11, [.ref q14, w4, w5, w6, w7, w8, w9, w10, w11, w12, w13])), (q18, .inl (g.2 3, 10, .inr (.inr (.inr (.inr f19))))), (q14, .inr (10, [.ref q18, .int 0, w17])), (q21, .inr (8, [w22, w23, w24, w25, .int 0, w27, w28]))]) 1 6 (va_A [(q21, .inr (8, [w22, w23, w24, w25, .int 0, w27, w28])), (q18, .inl (g.2 3, 10, .inr (.inr (.inr (.inr f19))))), (q14, .inr (10, [.ref q18, .int 0, w17])), (q1, .inr (11, [.ref q14, w4, w5, w6, w7, w8, w9, w10, w11, w12, w13]))] sz) := by
  refine ofX (by decide) (Nat.le_of_ble_eq_true rfl) rfl ?_
  intro p e s m args below meth c A ls hAe hsz hx hb hml hr hlocks hin hown hE hP hD hA hS hl hex hz
  have hown : s.vm.findClass RX9 = some m.cls := hown
  refine lv_iload_n hx hb dX9_requireClip_0 rfl (lv_at hl 1 rfl) ?_
  refine lv_aload_n hx hb dX9_requireClip_1 rfl (lv_at hl 0 rfl) ?_
  refine gf_RX9_12 hx hb hown hE hP 3 rfl rfl dX9_requireClip_2 ?_
  refine g_r (wr := [(q21, .inr (8, [w22, w23, w24, w25, .int 0, w27, w28])), (q1, .inr (11, [.ref q14, w4, w5, w6, w7, w8, w9, w10, w11, w12, w13]))]) (rV (rest := [.int x2]) hx hb hml hown hE hP hD 2 rfl rfl (c71_X8_current l g q14 q18 q21 w17 f19 (hf20) s.heap.size) (kV_X8_current hE (e290 hE) rfl rfl ⟨(Nat.le_of_ble_eq_true rfl), (Nat.le_of_ble_eq_true rfl)⟩) [1, 2] rfl (by decide) rfl hl.1 rfl (lv_room (Nat.le_of_ble_eq_true rfl)) dX9_requireClip_5 ⟨(Nat.le_of_ble_eq_true rfl), (Nat.le_of_ble_eq_true rfl)⟩) hP hD hS hA [1, 2] [0, 3] rfl rfl (by decide) (by decide) (fun u1 H locs hP hD hS => ?_)
  have hP : va_P g.1 vwCl [(q21, .inr (8, [w22, w23, w24, w25, .int 0, w27, w28])), (q1, .inr (11, [.ref q14, w4, w5, w6, w7, w8, w9, w10, w11, w12, w13])), (q18, .inl (g.2 3, 10, .inr (.inr (.inr (.inr f19))))), (q14, .inr (10, [.ref q18, .int 0, w17]))] H := hP
  have hD : va_D A [(q21, .inr (8, [w22, w23, w24, w25, .int 0, w27, w28])), (q1, .inr (11, [.ref q14, w4, w5, w6, w7, w8, w9, w10, w11, w12, w13])), (q18, .inl (g.2 3, 10, .inr (.inr (.inr (.inr f19))))), (q14, .inr (10, [.ref q18, .int 0, w17]))] := hD
  refine g_i (wr := [(q1, .inr (11, [.ref q14, w4, w5, w6, w7, w8, w9, w10, w11, w12, w13])), (q18, .inl (g.2 3, 10, .inr (.inr (.inr (.inr f19))))), (q14, .inr (10, [.ref q18, .int 0, w17]))]) (rV (rest := [.int x2]) hx hb hml hown hE hP hD 0 rfl rfl (c72_X6_clipCount l g q21 w22 w23 w24 w25 w27 w28 H.size) (kV_X6_clipCount hE (e297 hE) rfl rfl ⟨(Nat.le_of_ble_eq_true rfl), (Nat.le_of_ble_eq_true rfl)⟩) [0] rfl (by decide) rfl hl.1 rfl (lv_room (Nat.le_of_ble_eq_true rfl)) dX9_requireClip_8 ⟨(Nat.le_of_ble_eq_true rfl), (Nat.le_of_ble_eq_true rfl)⟩) hP hD hS hA [0] [1, 2, 3] rfl rfl (by decide) (by decide) (fun u2 H locs hP hD hS => ?_)
  have hP : va_P g.1 vwCl [(q1, .inr (11, [.ref q14, w4, w5, w6, w7, w8, w9, w10, w11, w12, w13])), (q18, .inl (g.2 3, 10, .inr (.inr (.inr (.inr f19))))), (q14, .inr (10, [.ref q18, .int 0, w17])), (q21, .inr (8, [w22, w23, w24, w25, .int 0, w27, w28]))] H := hP
  have hD : va_D A [(q1, .inr (11, [.ref q14, w4, w5, w6, w7, w8, w9, w10, w11, w12, w13])), (q18, .inl (g.2 3, 10, .inr (.inr (.inr (.inr f19))))), (q14, .inr (10, [.ref q18, .int 0, w17])), (q21, .inr (8, [w22, w23, w24, w25, .int 0, w27, w28]))] := hD
  refine gx_v (wr := [(q1, .inr (11, [.ref q14, w4, w5, w6, w7, w8, w9, w10, w11, w12, w13])), (q18, .inl (g.2 3, 10, .inr (.inr (.inr (.inr f19))))), (q14, .inr (10, [.ref q18, .int 0, w17])), (q21, .inr (8, [w22, w23, w24, w25, .int 0, w27, w28]))]) (rSx (rest := []) hx hb hml hown hE hP hD hS hA hz (c1169_X9_requireIndex l g hlx x2 h29 H.size) (kS_X9_requireIndex hE (e620 hE) rfl rfl ⟨(Nat.le_of_ble_eq_true rfl), (Nat.le_of_ble_eq_true rfl)⟩) [] rfl (by decide) rfl hl.1 rfl (lv_room (Nat.le_of_ble_eq_true rfl)) dX9_requireClip_11 ⟨(Nat.le_of_ble_eq_true rfl), (Nat.le_of_ble_eq_true rfl)⟩) hP hD hS hA [] [0, 1, 2, 3] rfl rfl (by decide) (by decide) (fun ce9 q9 H locs hP hD hS hq1 hq2 hq3 => ?_)
  exact x_out hex hlocks hq1 hq2 hq3 hP hD hS hAe hsz (Nat.le_of_ble_eq_true rfl) (Nat.le_of_ble_eq_true rfl) [0, 1, 2, 3] (by decide) rfl

set_option maxHeartbeats 4000000 in
set_option maxRecDepth 100000 in
theorem c1605_X9_removeClip (l : Launch) (g : gG) (hlx : l.stackTraces = false) (q1 q14 q18 q21 : Nat) (x2 : Int32) (w4 w5 w6 w7 w8 w9 w10 w11 w12 w13 w17 w22 w23 w24 w25 w27 w28 : Value) (f19 : Nat → Option Nat) (hf20 : f19 0 = some q21) (h29 : (0 : Int32) ≤ x2) (sz : Nat) : vx_Met l yX9_removeClip [Cond.code yX9_removeClip cX9_removeClip 3 (some .int)] ({ frames := 8, cells := 1, slots := 6, locals := 142 } : Room) (va_Pc [.ref q1, .int x2] (PZ g sz [(q21, .inr (8, [w22, w23, w24, w25, .int 0, w27, w28])), (q18, .inl (g.2 3, 10, .inr (.inr (.inr (.inr f19))))), (q14, .inr (10, [.ref q18, .int 0, w17])), (q1, .inr (11, [.ref q14, w4, w5, w6, w7, w8, w9, w10, w11, w12, w13]))])) NI (XW g [(q21, .inr (8, [w22, w23, w24, w25, .int 0, w27, w28])), (q18, .inl (g.2 3, 10, .inr (.inr (.inr (.inr f19))))), (q14, .inr (10, [.ref q18, .int 0, w17])), (q1, .inr (11, [.ref q14, w4, w5, w6, w7, w8, w9, w10, w11, w12, w13]))] sz "java/lang/IndexOutOfBoundsException" [(q1, .inr (11, [.ref q14, w4, w5, w6, w7, w8, w9, w10, w11, w12, w13])), (q18, .inl (g.2 3, 10, .inr (.inr (.inr (.inr f19))))), (q14, .inr (10, [.ref q18, .int 0, w17])), (q21, .inr (8, [w22, w23, w24, w25, .int 0, w27, w28]))]) 1 6 (va_A [(q21, .inr (8, [w22, w23, w24, w25, .int 0, w27, w28])), (q18, .inl (g.2 3, 10, .inr (.inr (.inr (.inr f19))))), (q14, .inr (10, [.ref q18, .int 0, w17])), (q1, .inr (11, [.ref q14, w4, w5, w6, w7, w8, w9, w10, w11, w12, w13]))] sz) := by
  refine ofX (by decide) (Nat.le_of_ble_eq_true rfl) rfl ?_
  intro p e s m args below meth c A ls hAe hsz hx hb hml hr hlocks hin hown hE hP hD hA hS hl hex hz
  have hown : s.vm.findClass RX9 = some m.cls := hown
  refine lv_aload_n hx hb dX9_removeClip_0 rfl (lv_at hl 0 rfl) ?_
  refine lv_iload_n hx hb dX9_removeClip_1 rfl (lv_at hl 1 rfl) ?_
  refine gx_v (wr := []) (rVx (rest := []) hx hb hml hown hE hP hD hS hA hz 3 rfl rfl (c1604_X9_requireClip l g hlx q1 q14 q18 q21 x2 w4 w5 w6 w7 w8 w9 w10 w11 w12 w13 w17 w22 w23 w24 w25 w27 w28 f19 (hf20) h29 s.heap.size) (kV_X9_requireClip hE (e819 hE) rfl rfl ⟨(Nat.le_of_ble_eq_true rfl), (Nat.le_of_ble_eq_true rfl)⟩) [0, 1, 2, 3] rfl (by decide) rfl hl.1 rfl (lv_room (Nat.le_of_ble_eq_true rfl)) dX9_removeClip_2 ⟨(Nat.le_of_ble_eq_true rfl), (Nat.le_of_ble_eq_true rfl)⟩) hP hD hS hA [0, 1, 2, 3] [] rfl rfl (by decide) (by decide) (fun ce9 q9 H locs hP hD hS hq1 hq2 hq3 => ?_)
  exact x_out hex hlocks hq1 hq2 hq3 hP hD hS hAe hsz (Nat.le_of_ble_eq_true rfl) (Nat.le_of_ble_eq_true rfl) [0, 1, 2, 3] (by decide) rfl

set_option maxHeartbeats 4000000 in
set_option maxRecDepth 100000 in
theorem c1606_L_removeClip (l : Launch) (g : gG) (hlx : l.stackTraces = false) (q1 q3 q15 q19 q22 : Nat) (x2 : Int32) (w5 w6 w7 w8 w9 w10 w11 w12 w13 w14 w18 w23 w24 w25 w26 w28 w29 : Value) (f20 : Nat → Option Nat) (hf21 : f20 0 = some q22) (h30 : (0 : Int32) ≤ x2) (sz : Nat) : Met l yL_removeClip [Cond.codeWith yL_removeClip cL_removeClip 4 (some .int) [(0, 9, 12, 13)]] ({ frames := 9, cells := 1, slots := 6, locals := 164 } : Room) (va_Pc [.ref q1, .int x2, .ref q3] (PZ g sz [(q22, .inr (8, [w23, w24, w25, w26, .int 0, w28, w29])), (q19, .inl (g.2 3, 10, .inr (.inr (.inr (.inr f20))))), (q15, .inr (10, [.ref q19, .int 0, w18])), (q1, .inr (11, [.ref q15, w5, w6, w7, w8, w9, w10, w11, w12, w13, w14]))])) (QI g [(q22, .inr (8, [w23, w24, w25, w26, .int 0, w28, w29])), (q19, .inl (g.2 3, 10, .inr (.inr (.inr (.inr f20))))), (q15, .inr (10, [.ref q19, .int 0, w18])), (q1, .inr (11, [.ref q15, w5, w6, w7, w8, w9, w10, w11, w12, w13, w14]))] sz 1 (fun _ => [])) 1 6 (va_A [(q22, .inr (8, [w23, w24, w25, w26, .int 0, w28, w29])), (q19, .inl (g.2 3, 10, .inr (.inr (.inr (.inr f20))))), (q15, .inr (10, [.ref q19, .int 0, w18])), (q1, .inr (11, [.ref q15, w5, w6, w7, w8, w9, w10, w11, w12, w13, w14]))] sz) := by
  refine ofH (by decide) (Nat.le_of_ble_eq_true rfl) rfl ?_
  intro p e s m args below meth c A ls hAe hsz hx hb hml hr hlocks hin hown hE hP hD hA hS hl htb hz
  have hown : s.vm.findClass RL = some m.cls := hown
  refine lv_aload_n hx hb dL_removeClip_0 rfl (lv_at hl 2 rfl) ?_
  refine lv_iconst (v := 0) hx hb dL_removeClip_1 (by decide) ?_
  refine lv_aload_n hx hb dL_removeClip_2 rfl (lv_at hl 0 rfl) ?_
  refine lv_iload_n hx hb dL_removeClip_3 rfl (lv_at hl 1 rfl) ?_
  refine gx_i (wr := []) (rVx (rest := [.int 0, .ref q3]) hx hb hml hown hE hP hD hS hA hz 3 rfl rfl (c1605_X9_removeClip l g hlx q1 q15 q19 q22 x2 w5 w6 w7 w8 w9 w10 w11 w12 w13 w14 w18 w23 w24 w25 w26 w28 w29 f20 (hf21) h30 s.heap.size) (kV_X9_removeClip hE (e815 hE) rfl rfl ⟨(Nat.le_of_ble_eq_true rfl), (Nat.le_of_ble_eq_true rfl)⟩) [0, 1, 2, 3] rfl (by decide) rfl hl.1 rfl (lv_room (Nat.le_of_ble_eq_true rfl)) dL_removeClip_4 ⟨(Nat.le_of_ble_eq_true rfl), (Nat.le_of_ble_eq_true rfl)⟩) hP hD hS hA [0, 1, 2, 3] [] rfl rfl (by decide) (by decide) (fun ce9 q9 H locs hP hD hS hq1 hq2 hq3 => ?_)
  have hP : va_P g.1 vwCl [(q1, .inr (11, [.ref q15, w5, w6, w7, w8, w9, w10, w11, w12, w13, w14])), (q19, .inl (g.2 3, 10, .inr (.inr (.inr (.inr f20))))), (q15, .inr (10, [.ref q19, .int 0, w18])), (q22, .inr (8, [w23, w24, w25, w26, .int 0, w28, w29]))] H := hP
  have hD : va_D A [(q1, .inr (11, [.ref q15, w5, w6, w7, w8, w9, w10, w11, w12, w13, w14])), (q19, .inl (g.2 3, 10, .inr (.inr (.inr (.inr f20))))), (q15, .inr (10, [.ref q19, .int 0, w18])), (q22, .inr (8, [w23, w24, w25, w26, .int 0, w28, w29]))] := hD
  refine x_catch (name := "java/lang/IndexOutOfBoundsException") (hh := [(0, 9, 12, 13)]) (tgt := 12) hown htb [] ⟨0, 9, 12, 13⟩ [] rfl (fun _ h => nomatch h) rfl (by decide) (e532 hE) (e625 hE) hq1 hq2 hq3 rfl ?_
  refine lv_astore_n (lv' := [(3, .ref q9), (0, .ref q1), (1, .int x2), (2, .ref q3)]) hx hb dL_removeClip_12 rfl hl (by decide) rfl (fun ls hl => ?_)
  refine lv_iconst (v := 1) hx hb dL_removeClip_13 (by decide) ?_
  exact x_zret hx hb hr rfl rfl hlocks hP hD hS hAe hsz (Nat.le_of_ble_eq_true rfl) (Nat.le_of_ble_eq_true rfl) (fun _ => 0) [] (by decide) rfl dL_removeClip_14

set_option maxHeartbeats 4000000 in
set_option maxRecDepth 100000 in
theorem c1607_X10_isClip (l : Launch) (g : gG) (q1 q40 : Nat) (x2 : Int32) (w4 w5 w6 w7 w8 w9 w10 w11 w12 w13 w14 w15 w16 w17 w18 w19 w20 w21 w22 w23 w24 w25 w26 w27 w28 w29 w30 w31 w32 w33 w34 w35 w36 w37 w38 w39 : Value) (f41 : Nat → Int32) (hf42 : f41 392 = 0) (h43 : (0 : Int32) ≤ x2) (sz : Nat) : Met l yX10_isClip [Cond.code yX10_isClip cX10_isClip 2 (some .boolean)] ({ frames := 1, cells := 0, slots := 0, locals := 22 } : Room) (va_Pc [.ref q1, .int x2] (PX g sz [(q40, .inl (g.2 0, 497, .inl f41)), (q1, .inr (12, [.ref q40, w4, w5, w6, w7, w8, w9, w10, w11, w12, w13, w14, w15, w16, w17, w18, w19, w20, w21, w22, w23, w24, w25, w26, w27, w28, w29, w30, w31, w32, w33, w34, w35, w36, w37, w38, w39]))])) (QI g [(q40, .inl (g.2 0, 497, .inl f41)), (q1, .inr (12, [.ref q40, w4, w5, w6, w7, w8, w9, w10, w11, w12, w13, w14, w15, w16, w17, w18, w19, w20, w21, w22, w23, w24, w25, w26, w27, w28, w29, w30, w31, w32, w33, w34, w35, w36, w37, w38, w39]))] sz 0 (fun _ => [(q40, .inl (g.2 0, 497, .inl f41)), (q1, .inr (12, [.ref q40, w4, w5, w6, w7, w8, w9, w10, w11, w12, w13, w14, w15, w16, w17, w18, w19, w20, w21, w22, w23, w24, w25, w26, w27, w28, w29, w30, w31, w32, w33, w34, w35, w36, w37, w38, w39]))])) 0 0 (va_A [(q40, .inl (g.2 0, 497, .inl f41)), (q1, .inr (12, [.ref q40, w4, w5, w6, w7, w8, w9, w10, w11, w12, w13, w14, w15, w16, w17, w18, w19, w20, w21, w22, w23, w24, w25, w26, w27, w28, w29, w30, w31, w32, w33, w34, w35, w36, w37, w38, w39]))] sz) := by
  refine ofN (by decide) (Nat.le_of_ble_eq_true rfl) rfl ?_
  intro p e s m args below meth c A ls hAe hsz hx hb hml hr hlocks hin hown hE hP hD hA hS hl
  have hown : s.vm.findClass RX10 = some m.cls := hown
  refine lv_iload_n hx hb dX10_isClip_0 rfl (lv_at hl 1 rfl) ?_
  refine lv_iconst (v := 0) hx hb dX10_isClip_1 (by decide) ?_
  refine lv_aload_n hx hb dX10_isClip_2 rfl (lv_at hl 0 rfl) ?_
  refine gf_RX10_9 hx hb hown hE hP 1 rfl rfl dX10_isClip_3 ?_
  refine lv_sipush (v := 392) hx hb dX10_isClip_6 (by decide) ?_
  refine x_iald (v := 0) hx hb hE hP 0 rfl 392 (x_in (by decide)) (by decide) hf42 dX10_isClip_9 ?_
  refine lv_iconst (v := 1) hx hb dX10_isClip_10 (by decide) ?_
  refine x_isub (v := (-1)) hx hb dX10_isClip_11 (by decide) ?_
  refine g0_i (rS (rest := []) hx hb hml hown hE hP hD (c649_X10_in l g x2 h43 s.heap.size) (kS_X10_in hE (e1431 hE) rfl rfl ⟨(Nat.le_of_ble_eq_true rfl), (Nat.le_of_ble_eq_true rfl)⟩) [] rfl (by decide) rfl hl.1 rfl (lv_room (Nat.le_of_ble_eq_true rfl)) dX10_isClip_12 ⟨(Nat.le_of_ble_eq_true rfl), (Nat.le_of_ble_eq_true rfl)⟩) hP hD hS hA (fun u9 H locs hP hS => ?_)
  exact x_zret hx hb hr rfl rfl hlocks hP hD hS hAe hsz (Nat.le_of_ble_eq_true rfl) (Nat.le_of_ble_eq_true rfl) (fun _ => 0) [0, 1] (by decide) rfl dX10_isClip_15

set_option maxHeartbeats 4000000 in
set_option maxRecDepth 100000 in
theorem c1608_X10_removeClip (l : Launch) (g : gG) (q1 q40 : Nat) (x2 : Int32) (w4 w5 w6 w7 w8 w9 w10 w11 w12 w13 w14 w15 w16 w17 w18 w19 w20 w21 w22 w23 w24 w25 w26 w27 w28 w29 w30 w31 w32 w33 w34 w35 w36 w37 w38 w39 : Value) (f41 : Nat → Int32) (hf42 : f41 392 = 0) (h43 : (0 : Int32) ≤ x2) (sz : Nat) : Met l yX10_removeClip [Cond.code yX10_removeClip cX10_removeClip 3 (some .int)] ({ frames := 2, cells := 0, slots := 0, locals := 43 } : Room) (va_Pc [.ref q1, .int x2] (PX g sz [(q40, .inl (g.2 0, 497, .inl f41)), (q1, .inr (12, [.ref q40, w4, w5, w6, w7, w8, w9, w10, w11, w12, w13, w14, w15, w16, w17, w18, w19, w20, w21, w22, w23, w24, w25, w26, w27, w28, w29, w30, w31, w32, w33, w34, w35, w36, w37, w38, w39]))])) (QI g [(q40, .inl (g.2 0, 497, .inl f41)), (q1, .inr (12, [.ref q40, w4, w5, w6, w7, w8, w9, w10, w11, w12, w13, w14, w15, w16, w17, w18, w19, w20, w21, w22, w23, w24, w25, w26, w27, w28, w29, w30, w31, w32, w33, w34, w35, w36, w37, w38, w39]))] sz 0 (fun _ => [(q1, .inr (12, [.ref q40, w4, w5, w6, w7, w8, .int 1, w10, w11, w12, w13, w14, w15, w16, w17, w18, w19, w20, w21, w22, w23, w24, w25, w26, w27, w28, w29, w30, w31, w32, w33, w34, w35, w36, w37, w38, w39]))])) 0 0 (va_A [(q40, .inl (g.2 0, 497, .inl f41)), (q1, .inr (12, [.ref q40, w4, w5, w6, w7, w8, w9, w10, w11, w12, w13, w14, w15, w16, w17, w18, w19, w20, w21, w22, w23, w24, w25, w26, w27, w28, w29, w30, w31, w32, w33, w34, w35, w36, w37, w38, w39]))] sz) := by
  refine ofN (by decide) (Nat.le_of_ble_eq_true rfl) rfl ?_
  intro p e s m args below meth c A ls hAe hsz hx hb hml hr hlocks hin hown hE hP hD hA hS hl
  have hown : s.vm.findClass RX10 = some m.cls := hown
  refine lv_aload_n hx hb dX10_removeClip_0 rfl (lv_at hl 0 rfl) ?_
  refine lv_aload_n hx hb dX10_removeClip_1 rfl (lv_at hl 0 rfl) ?_
  refine lv_iload_n hx hb dX10_removeClip_2 rfl (lv_at hl 1 rfl) ?_
  refine g_i (wr := []) (rV (rest := [.ref q1]) hx hb hml hown hE hP hD 1 rfl rfl (c1607_X10_isClip l g q1 q40 x2 w4 w5 w6 w7 w8 w9 w10 w11 w12 w13 w14 w15 w16 w17 w18 w19 w20 w21 w22 w23 w24 w25 w26 w27 w28 w29 w30 w31 w32 w33 w34 w35 w36 w37 w38 w39 f41 (hf42) h43 s.heap.size) (kV_X10_isClip hE (e1527 hE) rfl rfl ⟨(Nat.le_of_ble_eq_true rfl), (Nat.le_of_ble_eq_true rfl)⟩) [0, 1] rfl (by decide) rfl hl.1 rfl (lv_room (Nat.le_of_ble_eq_true rfl)) dX10_removeClip_3 ⟨(Nat.le_of_ble_eq_true rfl), (Nat.le_of_ble_eq_true rfl)⟩) hP hD hS hA [0, 1] [] rfl rfl (by decide) (by decide) (fun u1 H locs hP hD hS => ?_)
  have hP : va_P g.1 vwCl [(q40, .inl (g.2 0, 497, .inl f41)), (q1, .inr (12, [.ref q40, w4, w5, w6, w7, w8, w9, w10, w11, w12, w13, w14, w15, w16, w17, w18, w19, w20, w21, w22, w23, w24, w25, w26, w27, w28, w29, w30, w31, w32, w33, w34, w35, w36, w37, w38, w39]))] H := hP
  have hD : va_D A [(q40, .inl (g.2 0, 497, .inl f41)), (q1, .inr (12, [.ref q40, w4, w5, w6, w7, w8, w9, w10, w11, w12, w13, w14, w15, w16, w17, w18, w19, w20, w21, w22, w23, w24, w25, w26, w27, w28, w29, w30, w31, w32, w33, w34, w35, w36, w37, w38, w39]))] := hD
  refine lv_if_eq (tgt := 13) hx hb dX10_removeClip_6 (by decide) (fun _ => ?_) (fun h => absurd (by decide) h)
  refine lv_iconst (v := 1) hx hb dX10_removeClip_13 (by decide) ?_
  refine pf_RX10_86 (ws' := [(q40, .inl (g.2 0, 497, .inl f41)), (q1, .inr (12, [.ref q40, w4, w5, w6, w7, w8, .int 1, w10, w11, w12, w13, w14, w15, w16, w17, w18, w19, w20, w21, w22, w23, w24, w25, w26, w27, w28, w29, w30, w31, w32, w33, w34, w35, w36, w37, w38, w39]))]) hx hb hown hE hP hD hS 1 rfl rfl rfl (Nat.le_of_ble_eq_true rfl) dX10_removeClip_14 rfl (fun H locs hP hD hS => ?_)
  refine lv_aload_n hx hb dX10_removeClip_17 rfl (lv_at hl 0 rfl) ?_
  refine gf_RX10_86 hx hb hown hE hP 1 rfl rfl dX10_removeClip_18 ?_
  refine lv_if_le (tgt := 26) hx hb dX10_removeClip_21 (by decide) (fun h => absurd h (by decide)) (fun _ => ?_)
  refine lv_iconst (v := 0) hx hb dX10_removeClip_24 (by decide) ?_
  exact x_zret hx hb hr rfl rfl hlocks hP hD hS hAe hsz (Nat.le_of_ble_eq_true rfl) (Nat.le_of_ble_eq_true rfl) (fun _ => 0) [1] (by decide) rfl dX10_removeClip_25

set_option maxHeartbeats 4000000 in
set_option maxRecDepth 100000 in
theorem c1609_X9_moveClip (l : Launch) (g : gG) (hlx : l.stackTraces = false) (q1 q15 q19 q22 : Nat) (x2 x3 : Int32) (w5 w6 w7 w8 w9 w10 w11 w12 w13 w14 w18 w23 w24 w25 w26 w28 w29 : Value) (f20 : Nat → Option Nat) (hf21 : f20 0 = some q22) (h30 : x2 < 0) (sz : Nat) : vx_Met l yX9_moveClip [Cond.code yX9_moveClip cX9_moveClip 5 (some .int)] ({ frames := 8, cells := 1, slots := 6, locals := 142 } : Room) (va_Pc [.ref q1, .int x2, .int x3] (PZ g sz [(q22, .inr (8, [w23, w24, w25, w26, .int 0, w28, w29])), (q19, .inl (g.2 3, 10, .inr (.inr (.inr (.inr f20))))), (q15, .inr (10, [.ref q19, .int 0, w18])), (q1, .inr (11, [.ref q15, w5, w6, w7, w8, w9, w10, w11, w12, w13, w14]))])) NI (XW g [(q22, .inr (8, [w23, w24, w25, w26, .int 0, w28, w29])), (q19, .inl (g.2 3, 10, .inr (.inr (.inr (.inr f20))))), (q15, .inr (10, [.ref q19, .int 0, w18])), (q1, .inr (11, [.ref q15, w5, w6, w7, w8, w9, w10, w11, w12, w13, w14]))] sz "java/lang/IndexOutOfBoundsException" [(q1, .inr (11, [.ref q15, w5, w6, w7, w8, w9, w10, w11, w12, w13, w14])), (q19, .inl (g.2 3, 10, .inr (.inr (.inr (.inr f20))))), (q15, .inr (10, [.ref q19, .int 0, w18])), (q22, .inr (8, [w23, w24, w25, w26, .int 0, w28, w29]))]) 1 6 (va_A [(q22, .inr (8, [w23, w24, w25, w26, .int 0, w28, w29])), (q19, .inl (g.2 3, 10, .inr (.inr (.inr (.inr f20))))), (q15, .inr (10, [.ref q19, .int 0, w18])), (q1, .inr (11, [.ref q15, w5, w6, w7, w8, w9, w10, w11, w12, w13, w14]))] sz) := by
  refine ofX (by decide) (Nat.le_of_ble_eq_true rfl) rfl ?_
  intro p e s m args below meth c A ls hAe hsz hx hb hml hr hlocks hin hown hE hP hD hA hS hl hex hz
  have hown : s.vm.findClass RX9 = some m.cls := hown
  refine lv_aload_n hx hb dX9_moveClip_0 rfl (lv_at hl 0 rfl) ?_
  refine lv_iload_n hx hb dX9_moveClip_1 rfl (lv_at hl 1 rfl) ?_
  refine gx_v (wr := []) (rVx (rest := []) hx hb hml hown hE hP hD hS hA hz 3 rfl rfl (c1599_X9_requireClip l g hlx q1 q15 q19 q22 x2 w5 w6 w7 w8 w9 w10 w11 w12 w13 w14 w18 w23 w24 w25 w26 w28 w29 f20 (hf21) h30 s.heap.size) (kV_X9_requireClip hE (e819 hE) rfl rfl ⟨(Nat.le_of_ble_eq_true rfl), (Nat.le_of_ble_eq_true rfl)⟩) [0, 1, 2, 3] rfl (by decide) rfl hl.1 rfl (lv_room (Nat.le_of_ble_eq_true rfl)) dX9_moveClip_2 ⟨(Nat.le_of_ble_eq_true rfl), (Nat.le_of_ble_eq_true rfl)⟩) hP hD hS hA [0, 1, 2, 3] [] rfl rfl (by decide) (by decide) (fun ce9 q9 H locs hP hD hS hq1 hq2 hq3 => ?_)
  exact x_out hex hlocks hq1 hq2 hq3 hP hD hS hAe hsz (Nat.le_of_ble_eq_true rfl) (Nat.le_of_ble_eq_true rfl) [0, 1, 2, 3] (by decide) rfl

set_option maxHeartbeats 4000000 in
set_option maxRecDepth 100000 in
theorem c1610_L_moveClip (l : Launch) (g : gG) (hlx : l.stackTraces = false) (q1 q4 q16 q20 q23 : Nat) (x2 x3 : Int32) (w6 w7 w8 w9 w10 w11 w12 w13 w14 w15 w19 w24 w25 w26 w27 w29 w30 : Value) (f21 : Nat → Option Nat) (hf22 : f21 0 = some q23) (h31 : x2 < 0) (sz : Nat) : Met l yL_moveClip [Cond.codeWith yL_moveClip cL_moveClip 5 (some .int) [(0, 10, 13, 13), (0, 10, 17, 15)]] ({ frames := 9, cells := 1, slots := 6, locals := 166 } : Room) (va_Pc [.ref q1, .int x2, .int x3, .ref q4] (PZ g sz [(q23, .inr (8, [w24, w25, w26, w27, .int 0, w29, w30])), (q20, .inl (g.2 3, 10, .inr (.inr (.inr (.inr f21))))), (q16, .inr (10, [.ref q20, .int 0, w19])), (q1, .inr (11, [.ref q16, w6, w7, w8, w9, w10, w11, w12, w13, w14, w15]))])) (QI g [(q23, .inr (8, [w24, w25, w26, w27, .int 0, w29, w30])), (q20, .inl (g.2 3, 10, .inr (.inr (.inr (.inr f21))))), (q16, .inr (10, [.ref q20, .int 0, w19])), (q1, .inr (11, [.ref q16, w6, w7, w8, w9, w10, w11, w12, w13, w14, w15]))] sz 1 (fun _ => [])) 1 6 (va_A [(q23, .inr (8, [w24, w25, w26, w27, .int 0, w29, w30])), (q20, .inl (g.2 3, 10, .inr (.inr (.inr (.inr f21))))), (q16, .inr (10, [.ref q20, .int 0, w19])), (q1, .inr (11, [.ref q16, w6, w7, w8, w9, w10, w11, w12, w13, w14, w15]))] sz) := by
  refine ofH (by decide) (Nat.le_of_ble_eq_true rfl) rfl ?_
  intro p e s m args below meth c A ls hAe hsz hx hb hml hr hlocks hin hown hE hP hD hA hS hl htb hz
  have hown : s.vm.findClass RL = some m.cls := hown
  refine lv_aload_n hx hb dL_moveClip_0 rfl (lv_at hl 3 rfl) ?_
  refine lv_iconst (v := 0) hx hb dL_moveClip_1 (by decide) ?_
  refine lv_aload_n hx hb dL_moveClip_2 rfl (lv_at hl 0 rfl) ?_
  refine lv_iload_n hx hb dL_moveClip_3 rfl (lv_at hl 1 rfl) ?_
  refine lv_iload_n hx hb dL_moveClip_4 rfl (lv_at hl 2 rfl) ?_
  refine gx_i (wr := []) (rVx (rest := [.int 0, .ref q4]) hx hb hml hown hE hP hD hS hA hz 3 rfl rfl (c1609_X9_moveClip l g hlx q1 q16 q20 q23 x2 x3 w6 w7 w8 w9 w10 w11 w12 w13 w14 w15 w19 w24 w25 w26 w27 w29 w30 f21 (hf22) h31 s.heap.size) (kV_X9_moveClip hE (e831 hE) rfl rfl ⟨(Nat.le_of_ble_eq_true rfl), (Nat.le_of_ble_eq_true rfl)⟩) [0, 1, 2, 3] rfl (by decide) rfl hl.1 rfl (lv_room (Nat.le_of_ble_eq_true rfl)) dL_moveClip_5 ⟨(Nat.le_of_ble_eq_true rfl), (Nat.le_of_ble_eq_true rfl)⟩) hP hD hS hA [0, 1, 2, 3] [] rfl rfl (by decide) (by decide) (fun ce9 q9 H locs hP hD hS hq1 hq2 hq3 => ?_)
  have hP : va_P g.1 vwCl [(q1, .inr (11, [.ref q16, w6, w7, w8, w9, w10, w11, w12, w13, w14, w15])), (q20, .inl (g.2 3, 10, .inr (.inr (.inr (.inr f21))))), (q16, .inr (10, [.ref q20, .int 0, w19])), (q23, .inr (8, [w24, w25, w26, w27, .int 0, w29, w30]))] H := hP
  have hD : va_D A [(q1, .inr (11, [.ref q16, w6, w7, w8, w9, w10, w11, w12, w13, w14, w15])), (q20, .inl (g.2 3, 10, .inr (.inr (.inr (.inr f21))))), (q16, .inr (10, [.ref q20, .int 0, w19])), (q23, .inr (8, [w24, w25, w26, w27, .int 0, w29, w30]))] := hD
  refine x_catch (name := "java/lang/IndexOutOfBoundsException") (hh := [(0, 10, 13, 13), (0, 10, 17, 15)]) (tgt := 13) hown htb [] ⟨0, 10, 13, 13⟩ [⟨0, 10, 17, 15⟩] rfl (fun _ h => nomatch h) rfl (by decide) (e532 hE) (e625 hE) hq1 hq2 hq3 rfl ?_
  refine lv_astore (lv' := [(4, .ref q9), (0, .ref q1), (1, .int x2), (2, .int x3), (3, .ref q4)]) hx hb dL_moveClip_13 hl (by decide) rfl (fun ls hl => ?_)
  refine lv_iconst (v := 1) hx hb dL_moveClip_15 (by decide) ?_
  exact x_zret hx hb hr rfl rfl hlocks hP hD hS hAe hsz (Nat.le_of_ble_eq_true rfl) (Nat.le_of_ble_eq_true rfl) (fun _ => 0) [] (by decide) rfl dL_moveClip_16

set_option maxHeartbeats 4000000 in
set_option maxRecDepth 100000 in
theorem c1611_X10_moveClip (l : Launch) (g : gG) (q1 q41 : Nat) (x2 x3 : Int32) (w5 w6 w7 w8 w9 w10 w11 w12 w13 w14 w15 w16 w17 w18 w19 w20 w21 w22 w23 w24 w25 w26 w27 w28 w29 w30 w31 w32 w33 w34 w35 w36 w37 w38 w39 w40 : Value) (f42 : Nat → Int32) (hf43 : f42 392 = 0) (h44 : x2 < 0) (sz : Nat) : Met l yX10_moveClip [Cond.code yX10_moveClip cX10_moveClip 4 (some .int)] ({ frames := 2, cells := 0, slots := 0, locals := 43 } : Room) (va_Pc [.ref q1, .int x2, .int x3] (PX g sz [(q41, .inl (g.2 0, 497, .inl f42)), (q1, .inr (12, [.ref q41, w5, w6, w7, w8, w9, w10, w11, w12, w13, w14, w15, w16, w17, w18, w19, w20, w21, w22, w23, w24, w25, w26, w27, w28, w29, w30, w31, w32, w33, w34, w35, w36, w37, w38, w39, w40]))])) (QI g [(q41, .inl (g.2 0, 497, .inl f42)), (q1, .inr (12, [.ref q41, w5, w6, w7, w8, w9, w10, w11, w12, w13, w14, w15, w16, w17, w18, w19, w20, w21, w22, w23, w24, w25, w26, w27, w28, w29, w30, w31, w32, w33, w34, w35, w36, w37, w38, w39, w40]))] sz 0 (fun _ => [(q1, .inr (12, [.ref q41, w5, w6, w7, w8, w9, .int 1, w11, w12, w13, w14, w15, w16, w17, w18, w19, w20, w21, w22, w23, w24, w25, w26, w27, w28, w29, w30, w31, w32, w33, w34, w35, w36, w37, w38, w39, w40]))])) 0 0 (va_A [(q41, .inl (g.2 0, 497, .inl f42)), (q1, .inr (12, [.ref q41, w5, w6, w7, w8, w9, w10, w11, w12, w13, w14, w15, w16, w17, w18, w19, w20, w21, w22, w23, w24, w25, w26, w27, w28, w29, w30, w31, w32, w33, w34, w35, w36, w37, w38, w39, w40]))] sz) := by
  refine ofN (by decide) (Nat.le_of_ble_eq_true rfl) rfl ?_
  intro p e s m args below meth c A ls hAe hsz hx hb hml hr hlocks hin hown hE hP hD hA hS hl
  have hown : s.vm.findClass RX10 = some m.cls := hown
  refine lv_aload_n hx hb dX10_moveClip_0 rfl (lv_at hl 0 rfl) ?_
  refine lv_aload_n hx hb dX10_moveClip_1 rfl (lv_at hl 0 rfl) ?_
  refine lv_iload_n hx hb dX10_moveClip_2 rfl (lv_at hl 1 rfl) ?_
  refine g_i (wr := []) (rV (rest := [.ref q1]) hx hb hml hown hE hP hD 1 rfl rfl (c1602_X10_isClip l g q1 q41 x2 w5 w6 w7 w8 w9 w10 w11 w12 w13 w14 w15 w16 w17 w18 w19 w20 w21 w22 w23 w24 w25 w26 w27 w28 w29 w30 w31 w32 w33 w34 w35 w36 w37 w38 w39 w40 f42 (hf43) h44 s.heap.size) (kV_X10_isClip hE (e1527 hE) rfl rfl ⟨(Nat.le_of_ble_eq_true rfl), (Nat.le_of_ble_eq_true rfl)⟩) [0, 1] rfl (by decide) rfl hl.1 rfl (lv_room (Nat.le_of_ble_eq_true rfl)) dX10_moveClip_3 ⟨(Nat.le_of_ble_eq_true rfl), (Nat.le_of_ble_eq_true rfl)⟩) hP hD hS hA [0, 1] [] rfl rfl (by decide) (by decide) (fun u1 H locs hP hD hS => ?_)
  have hP : va_P g.1 vwCl [(q41, .inl (g.2 0, 497, .inl f42)), (q1, .inr (12, [.ref q41, w5, w6, w7, w8, w9, w10, w11, w12, w13, w14, w15, w16, w17, w18, w19, w20, w21, w22, w23, w24, w25, w26, w27, w28, w29, w30, w31, w32, w33, w34, w35, w36, w37, w38, w39, w40]))] H := hP
  have hD : va_D A [(q41, .inl (g.2 0, 497, .inl f42)), (q1, .inr (12, [.ref q41, w5, w6, w7, w8, w9, w10, w11, w12, w13, w14, w15, w16, w17, w18, w19, w20, w21, w22, w23, w24, w25, w26, w27, w28, w29, w30, w31, w32, w33, w34, w35, w36, w37, w38, w39, w40]))] := hD
  refine lv_if_ne (tgt := 13) hx hb dX10_moveClip_6 (by decide) (fun h => absurd h (by decide)) (fun _ => ?_)
  refine lv_iconst (v := 1) hx hb dX10_moveClip_9 (by decide) ?_
  refine lv_goto (tgt := 29) hx hb dX10_moveClip_10 (by decide) ?_
  refine pf_RX10_86 (ws' := [(q41, .inl (g.2 0, 497, .inl f42)), (q1, .inr (12, [.ref q41, w5, w6, w7, w8, w9, .int 1, w11, w12, w13, w14, w15, w16, w17, w18, w19, w20, w21, w22, w23, w24, w25, w26, w27, w28, w29, w30, w31, w32, w33, w34, w35, w36, w37, w38, w39, w40]))]) hx hb hown hE hP hD hS 1 rfl rfl rfl (Nat.le_of_ble_eq_true rfl) dX10_moveClip_29 rfl (fun H locs hP hD hS => ?_)
  refine lv_aload_n hx hb dX10_moveClip_32 rfl (lv_at hl 0 rfl) ?_
  refine gf_RX10_86 hx hb hown hE hP 1 rfl rfl dX10_moveClip_33 ?_
  refine lv_if_le (tgt := 41) hx hb dX10_moveClip_36 (by decide) (fun h => absurd h (by decide)) (fun _ => ?_)
  refine lv_iconst (v := 0) hx hb dX10_moveClip_39 (by decide) ?_
  exact x_zret hx hb hr rfl rfl hlocks hP hD hS hAe hsz (Nat.le_of_ble_eq_true rfl) (Nat.le_of_ble_eq_true rfl) (fun _ => 0) [1] (by decide) rfl dX10_moveClip_40

set_option maxHeartbeats 4000000 in
set_option maxRecDepth 100000 in
theorem c1612_X9_moveClip (l : Launch) (g : gG) (hlx : l.stackTraces = false) (q1 q15 q19 q22 : Nat) (x2 x3 : Int32) (w5 w6 w7 w8 w9 w10 w11 w12 w13 w14 w18 w23 w24 w25 w26 w28 w29 : Value) (f20 : Nat → Option Nat) (hf21 : f20 0 = some q22) (h30 : (0 : Int32) ≤ x2) (sz : Nat) : vx_Met l yX9_moveClip [Cond.code yX9_moveClip cX9_moveClip 5 (some .int)] ({ frames := 8, cells := 1, slots := 6, locals := 142 } : Room) (va_Pc [.ref q1, .int x2, .int x3] (PZ g sz [(q22, .inr (8, [w23, w24, w25, w26, .int 0, w28, w29])), (q19, .inl (g.2 3, 10, .inr (.inr (.inr (.inr f20))))), (q15, .inr (10, [.ref q19, .int 0, w18])), (q1, .inr (11, [.ref q15, w5, w6, w7, w8, w9, w10, w11, w12, w13, w14]))])) NI (XW g [(q22, .inr (8, [w23, w24, w25, w26, .int 0, w28, w29])), (q19, .inl (g.2 3, 10, .inr (.inr (.inr (.inr f20))))), (q15, .inr (10, [.ref q19, .int 0, w18])), (q1, .inr (11, [.ref q15, w5, w6, w7, w8, w9, w10, w11, w12, w13, w14]))] sz "java/lang/IndexOutOfBoundsException" [(q1, .inr (11, [.ref q15, w5, w6, w7, w8, w9, w10, w11, w12, w13, w14])), (q19, .inl (g.2 3, 10, .inr (.inr (.inr (.inr f20))))), (q15, .inr (10, [.ref q19, .int 0, w18])), (q22, .inr (8, [w23, w24, w25, w26, .int 0, w28, w29]))]) 1 6 (va_A [(q22, .inr (8, [w23, w24, w25, w26, .int 0, w28, w29])), (q19, .inl (g.2 3, 10, .inr (.inr (.inr (.inr f20))))), (q15, .inr (10, [.ref q19, .int 0, w18])), (q1, .inr (11, [.ref q15, w5, w6, w7, w8, w9, w10, w11, w12, w13, w14]))] sz) := by
  refine ofX (by decide) (Nat.le_of_ble_eq_true rfl) rfl ?_
  intro p e s m args below meth c A ls hAe hsz hx hb hml hr hlocks hin hown hE hP hD hA hS hl hex hz
  have hown : s.vm.findClass RX9 = some m.cls := hown
  refine lv_aload_n hx hb dX9_moveClip_0 rfl (lv_at hl 0 rfl) ?_
  refine lv_iload_n hx hb dX9_moveClip_1 rfl (lv_at hl 1 rfl) ?_
  refine gx_v (wr := []) (rVx (rest := []) hx hb hml hown hE hP hD hS hA hz 3 rfl rfl (c1604_X9_requireClip l g hlx q1 q15 q19 q22 x2 w5 w6 w7 w8 w9 w10 w11 w12 w13 w14 w18 w23 w24 w25 w26 w28 w29 f20 (hf21) h30 s.heap.size) (kV_X9_requireClip hE (e819 hE) rfl rfl ⟨(Nat.le_of_ble_eq_true rfl), (Nat.le_of_ble_eq_true rfl)⟩) [0, 1, 2, 3] rfl (by decide) rfl hl.1 rfl (lv_room (Nat.le_of_ble_eq_true rfl)) dX9_moveClip_2 ⟨(Nat.le_of_ble_eq_true rfl), (Nat.le_of_ble_eq_true rfl)⟩) hP hD hS hA [0, 1, 2, 3] [] rfl rfl (by decide) (by decide) (fun ce9 q9 H locs hP hD hS hq1 hq2 hq3 => ?_)
  exact x_out hex hlocks hq1 hq2 hq3 hP hD hS hAe hsz (Nat.le_of_ble_eq_true rfl) (Nat.le_of_ble_eq_true rfl) [0, 1, 2, 3] (by decide) rfl

set_option maxHeartbeats 4000000 in
set_option maxRecDepth 100000 in
theorem c1613_L_moveClip (l : Launch) (g : gG) (hlx : l.stackTraces = false) (q1 q4 q16 q20 q23 : Nat) (x2 x3 : Int32) (w6 w7 w8 w9 w10 w11 w12 w13 w14 w15 w19 w24 w25 w26 w27 w29 w30 : Value) (f21 : Nat → Option Nat) (hf22 : f21 0 = some q23) (h31 : (0 : Int32) ≤ x2) (sz : Nat) : Met l yL_moveClip [Cond.codeWith yL_moveClip cL_moveClip 5 (some .int) [(0, 10, 13, 13), (0, 10, 17, 15)]] ({ frames := 9, cells := 1, slots := 6, locals := 166 } : Room) (va_Pc [.ref q1, .int x2, .int x3, .ref q4] (PZ g sz [(q23, .inr (8, [w24, w25, w26, w27, .int 0, w29, w30])), (q20, .inl (g.2 3, 10, .inr (.inr (.inr (.inr f21))))), (q16, .inr (10, [.ref q20, .int 0, w19])), (q1, .inr (11, [.ref q16, w6, w7, w8, w9, w10, w11, w12, w13, w14, w15]))])) (QI g [(q23, .inr (8, [w24, w25, w26, w27, .int 0, w29, w30])), (q20, .inl (g.2 3, 10, .inr (.inr (.inr (.inr f21))))), (q16, .inr (10, [.ref q20, .int 0, w19])), (q1, .inr (11, [.ref q16, w6, w7, w8, w9, w10, w11, w12, w13, w14, w15]))] sz 1 (fun _ => [])) 1 6 (va_A [(q23, .inr (8, [w24, w25, w26, w27, .int 0, w29, w30])), (q20, .inl (g.2 3, 10, .inr (.inr (.inr (.inr f21))))), (q16, .inr (10, [.ref q20, .int 0, w19])), (q1, .inr (11, [.ref q16, w6, w7, w8, w9, w10, w11, w12, w13, w14, w15]))] sz) := by
  refine ofH (by decide) (Nat.le_of_ble_eq_true rfl) rfl ?_
  intro p e s m args below meth c A ls hAe hsz hx hb hml hr hlocks hin hown hE hP hD hA hS hl htb hz
  have hown : s.vm.findClass RL = some m.cls := hown
  refine lv_aload_n hx hb dL_moveClip_0 rfl (lv_at hl 3 rfl) ?_
  refine lv_iconst (v := 0) hx hb dL_moveClip_1 (by decide) ?_
  refine lv_aload_n hx hb dL_moveClip_2 rfl (lv_at hl 0 rfl) ?_
  refine lv_iload_n hx hb dL_moveClip_3 rfl (lv_at hl 1 rfl) ?_
  refine lv_iload_n hx hb dL_moveClip_4 rfl (lv_at hl 2 rfl) ?_
  refine gx_i (wr := []) (rVx (rest := [.int 0, .ref q4]) hx hb hml hown hE hP hD hS hA hz 3 rfl rfl (c1612_X9_moveClip l g hlx q1 q16 q20 q23 x2 x3 w6 w7 w8 w9 w10 w11 w12 w13 w14 w15 w19 w24 w25 w26 w27 w29 w30 f21 (hf22) h31 s.heap.size) (kV_X9_moveClip hE (e831 hE) rfl rfl ⟨(Nat.le_of_ble_eq_true rfl), (Nat.le_of_ble_eq_true rfl)⟩) [0, 1, 2, 3] rfl (by decide) rfl hl.1 rfl (lv_room (Nat.le_of_ble_eq_true rfl)) dL_moveClip_5 ⟨(Nat.le_of_ble_eq_true rfl), (Nat.le_of_ble_eq_true rfl)⟩) hP hD hS hA [0, 1, 2, 3] [] rfl rfl (by decide) (by decide) (fun ce9 q9 H locs hP hD hS hq1 hq2 hq3 => ?_)
  have hP : va_P g.1 vwCl [(q1, .inr (11, [.ref q16, w6, w7, w8, w9, w10, w11, w12, w13, w14, w15])), (q20, .inl (g.2 3, 10, .inr (.inr (.inr (.inr f21))))), (q16, .inr (10, [.ref q20, .int 0, w19])), (q23, .inr (8, [w24, w25, w26, w27, .int 0, w29, w30]))] H := hP
  have hD : va_D A [(q1, .inr (11, [.ref q16, w6, w7, w8, w9, w10, w11, w12, w13, w14, w15])), (q20, .inl (g.2 3, 10, .inr (.inr (.inr (.inr f21))))), (q16, .inr (10, [.ref q20, .int 0, w19])), (q23, .inr (8, [w24, w25, w26, w27, .int 0, w29, w30]))] := hD
  refine x_catch (name := "java/lang/IndexOutOfBoundsException") (hh := [(0, 10, 13, 13), (0, 10, 17, 15)]) (tgt := 13) hown htb [] ⟨0, 10, 13, 13⟩ [⟨0, 10, 17, 15⟩] rfl (fun _ h => nomatch h) rfl (by decide) (e532 hE) (e625 hE) hq1 hq2 hq3 rfl ?_
  refine lv_astore (lv' := [(4, .ref q9), (0, .ref q1), (1, .int x2), (2, .int x3), (3, .ref q4)]) hx hb dL_moveClip_13 hl (by decide) rfl (fun ls hl => ?_)
  refine lv_iconst (v := 1) hx hb dL_moveClip_15 (by decide) ?_
  exact x_zret hx hb hr rfl rfl hlocks hP hD hS hAe hsz (Nat.le_of_ble_eq_true rfl) (Nat.le_of_ble_eq_true rfl) (fun _ => 0) [] (by decide) rfl dL_moveClip_16

set_option maxHeartbeats 4000000 in
set_option maxRecDepth 100000 in
theorem c1614_X10_moveClip (l : Launch) (g : gG) (q1 q41 : Nat) (x2 x3 : Int32) (w5 w6 w7 w8 w9 w10 w11 w12 w13 w14 w15 w16 w17 w18 w19 w20 w21 w22 w23 w24 w25 w26 w27 w28 w29 w30 w31 w32 w33 w34 w35 w36 w37 w38 w39 w40 : Value) (f42 : Nat → Int32) (hf43 : f42 392 = 0) (h44 : (0 : Int32) ≤ x2) (sz : Nat) : Met l yX10_moveClip [Cond.code yX10_moveClip cX10_moveClip 4 (some .int)] ({ frames := 2, cells := 0, slots := 0, locals := 43 } : Room) (va_Pc [.ref q1, .int x2, .int x3] (PX g sz [(q41, .inl (g.2 0, 497, .inl f42)), (q1, .inr (12, [.ref q41, w5, w6, w7, w8, w9, w10, w11, w12, w13, w14, w15, w16, w17, w18, w19, w20, w21, w22, w23, w24, w25, w26, w27, w28, w29, w30, w31, w32, w33, w34, w35, w36, w37, w38, w39, w40]))])) (QI g [(q41, .inl (g.2 0, 497, .inl f42)), (q1, .inr (12, [.ref q41, w5, w6, w7, w8, w9, w10, w11, w12, w13, w14, w15, w16, w17, w18, w19, w20, w21, w22, w23, w24, w25, w26, w27, w28, w29, w30, w31, w32, w33, w34, w35, w36, w37, w38, w39, w40]))] sz 0 (fun _ => [(q1, .inr (12, [.ref q41, w5, w6, w7, w8, w9, .int 1, w11, w12, w13, w14, w15, w16, w17, w18, w19, w20, w21, w22, w23, w24, w25, w26, w27, w28, w29, w30, w31, w32, w33, w34, w35, w36, w37, w38, w39, w40]))])) 0 0 (va_A [(q41, .inl (g.2 0, 497, .inl f42)), (q1, .inr (12, [.ref q41, w5, w6, w7, w8, w9, w10, w11, w12, w13, w14, w15, w16, w17, w18, w19, w20, w21, w22, w23, w24, w25, w26, w27, w28, w29, w30, w31, w32, w33, w34, w35, w36, w37, w38, w39, w40]))] sz) := by
  refine ofN (by decide) (Nat.le_of_ble_eq_true rfl) rfl ?_
  intro p e s m args below meth c A ls hAe hsz hx hb hml hr hlocks hin hown hE hP hD hA hS hl
  have hown : s.vm.findClass RX10 = some m.cls := hown
  refine lv_aload_n hx hb dX10_moveClip_0 rfl (lv_at hl 0 rfl) ?_
  refine lv_aload_n hx hb dX10_moveClip_1 rfl (lv_at hl 0 rfl) ?_
  refine lv_iload_n hx hb dX10_moveClip_2 rfl (lv_at hl 1 rfl) ?_
  refine g_i (wr := []) (rV (rest := [.ref q1]) hx hb hml hown hE hP hD 1 rfl rfl (c1607_X10_isClip l g q1 q41 x2 w5 w6 w7 w8 w9 w10 w11 w12 w13 w14 w15 w16 w17 w18 w19 w20 w21 w22 w23 w24 w25 w26 w27 w28 w29 w30 w31 w32 w33 w34 w35 w36 w37 w38 w39 w40 f42 (hf43) h44 s.heap.size) (kV_X10_isClip hE (e1527 hE) rfl rfl ⟨(Nat.le_of_ble_eq_true rfl), (Nat.le_of_ble_eq_true rfl)⟩) [0, 1] rfl (by decide) rfl hl.1 rfl (lv_room (Nat.le_of_ble_eq_true rfl)) dX10_moveClip_3 ⟨(Nat.le_of_ble_eq_true rfl), (Nat.le_of_ble_eq_true rfl)⟩) hP hD hS hA [0, 1] [] rfl rfl (by decide) (by decide) (fun u1 H locs hP hD hS => ?_)
  have hP : va_P g.1 vwCl [(q41, .inl (g.2 0, 497, .inl f42)), (q1, .inr (12, [.ref q41, w5, w6, w7, w8, w9, w10, w11, w12, w13, w14, w15, w16, w17, w18, w19, w20, w21, w22, w23, w24, w25, w26, w27, w28, w29, w30, w31, w32, w33, w34, w35, w36, w37, w38, w39, w40]))] H := hP
  have hD : va_D A [(q41, .inl (g.2 0, 497, .inl f42)), (q1, .inr (12, [.ref q41, w5, w6, w7, w8, w9, w10, w11, w12, w13, w14, w15, w16, w17, w18, w19, w20, w21, w22, w23, w24, w25, w26, w27, w28, w29, w30, w31, w32, w33, w34, w35, w36, w37, w38, w39, w40]))] := hD
  refine lv_if_ne (tgt := 13) hx hb dX10_moveClip_6 (by decide) (fun h => absurd h (by decide)) (fun _ => ?_)
  refine lv_iconst (v := 1) hx hb dX10_moveClip_9 (by decide) ?_
  refine lv_goto (tgt := 29) hx hb dX10_moveClip_10 (by decide) ?_
  refine pf_RX10_86 (ws' := [(q41, .inl (g.2 0, 497, .inl f42)), (q1, .inr (12, [.ref q41, w5, w6, w7, w8, w9, .int 1, w11, w12, w13, w14, w15, w16, w17, w18, w19, w20, w21, w22, w23, w24, w25, w26, w27, w28, w29, w30, w31, w32, w33, w34, w35, w36, w37, w38, w39, w40]))]) hx hb hown hE hP hD hS 1 rfl rfl rfl (Nat.le_of_ble_eq_true rfl) dX10_moveClip_29 rfl (fun H locs hP hD hS => ?_)
  refine lv_aload_n hx hb dX10_moveClip_32 rfl (lv_at hl 0 rfl) ?_
  refine gf_RX10_86 hx hb hown hE hP 1 rfl rfl dX10_moveClip_33 ?_
  refine lv_if_le (tgt := 41) hx hb dX10_moveClip_36 (by decide) (fun h => absurd h (by decide)) (fun _ => ?_)
  refine lv_iconst (v := 0) hx hb dX10_moveClip_39 (by decide) ?_
  exact x_zret hx hb hr rfl rfl hlocks hP hD hS hAe hsz (Nat.le_of_ble_eq_true rfl) (Nat.le_of_ble_eq_true rfl) (fun _ => 0) [1] (by decide) rfl dX10_moveClip_40

set_option maxHeartbeats 4000000 in
set_option maxRecDepth 100000 in
theorem c1615_X9_clip (l : Launch) (g : gG) (hlx : l.stackTraces = false) (q1 q15 q19 q22 : Nat) (x2 x3 : Int32) (w5 w6 w7 w8 w9 w10 w11 w12 w13 w14 w18 w23 w24 w25 w26 w28 w29 : Value) (f20 : Nat → Option Nat) (hf21 : f20 0 = some q22) (h30 : x2 < 0) (sz : Nat) : vx_Met l yX9_clip [Cond.code yX9_clip cX9_clip 4 (some .int)] ({ frames := 8, cells := 1, slots := 6, locals := 142 } : Room) (va_Pc [.ref q1, .int x2, .int x3] (PZ g sz [(q22, .inr (8, [w23, w24, w25, w26, .int 0, w28, w29])), (q19, .inl (g.2 3, 10, .inr (.inr (.inr (.inr f20))))), (q15, .inr (10, [.ref q19, .int 0, w18])), (q1, .inr (11, [.ref q15, w5, w6, w7, w8, w9, w10, w11, w12, w13, w14]))])) NI (XW g [(q22, .inr (8, [w23, w24, w25, w26, .int 0, w28, w29])), (q19, .inl (g.2 3, 10, .inr (.inr (.inr (.inr f20))))), (q15, .inr (10, [.ref q19, .int 0, w18])), (q1, .inr (11, [.ref q15, w5, w6, w7, w8, w9, w10, w11, w12, w13, w14]))] sz "java/lang/IndexOutOfBoundsException" [(q1, .inr (11, [.ref q15, w5, w6, w7, w8, w9, w10, w11, w12, w13, w14])), (q19, .inl (g.2 3, 10, .inr (.inr (.inr (.inr f20))))), (q15, .inr (10, [.ref q19, .int 0, w18])), (q22, .inr (8, [w23, w24, w25, w26, .int 0, w28, w29]))]) 1 6 (va_A [(q22, .inr (8, [w23, w24, w25, w26, .int 0, w28, w29])), (q19, .inl (g.2 3, 10, .inr (.inr (.inr (.inr f20))))), (q15, .inr (10, [.ref q19, .int 0, w18])), (q1, .inr (11, [.ref q15, w5, w6, w7, w8, w9, w10, w11, w12, w13, w14]))] sz) := by
  refine ofX (by decide) (Nat.le_of_ble_eq_true rfl) rfl ?_
  intro p e s m args below meth c A ls hAe hsz hx hb hml hr hlocks hin hown hE hP hD hA hS hl hex hz
  have hown : s.vm.findClass RX9 = some m.cls := hown
  refine lv_aload_n hx hb dX9_clip_0 rfl (lv_at hl 0 rfl) ?_
  refine lv_iload_n hx hb dX9_clip_1 rfl (lv_at hl 1 rfl) ?_
  refine gx_v (wr := []) (rVx (rest := []) hx hb hml hown hE hP hD hS hA hz 3 rfl rfl (c1599_X9_requireClip l g hlx q1 q15 q19 q22 x2 w5 w6 w7 w8 w9 w10 w11 w12 w13 w14 w18 w23 w24 w25 w26 w28 w29 f20 (hf21) h30 s.heap.size) (kV_X9_requireClip hE (e819 hE) rfl rfl ⟨(Nat.le_of_ble_eq_true rfl), (Nat.le_of_ble_eq_true rfl)⟩) [0, 1, 2, 3] rfl (by decide) rfl hl.1 rfl (lv_room (Nat.le_of_ble_eq_true rfl)) dX9_clip_2 ⟨(Nat.le_of_ble_eq_true rfl), (Nat.le_of_ble_eq_true rfl)⟩) hP hD hS hA [0, 1, 2, 3] [] rfl rfl (by decide) (by decide) (fun ce9 q9 H locs hP hD hS hq1 hq2 hq3 => ?_)
  exact x_out hex hlocks hq1 hq2 hq3 hP hD hS hAe hsz (Nat.le_of_ble_eq_true rfl) (Nat.le_of_ble_eq_true rfl) [0, 1, 2, 3] (by decide) rfl

set_option maxHeartbeats 4000000 in
set_option maxRecDepth 100000 in
theorem c1616_L_clip (l : Launch) (g : gG) (hlx : l.stackTraces = false) (q1 q4 q16 q20 q23 : Nat) (x2 x3 : Int32) (w6 w7 w8 w9 w10 w11 w12 w13 w14 w15 w19 w24 w25 w26 w27 w29 w30 : Value) (f21 : Nat → Option Nat) (hf22 : f21 0 = some q23) (h31 : x2 < 0) (sz : Nat) : Met l yL_clip [Cond.codeWith yL_clip cL_clip 5 (some .int) [(0, 10, 13, 13), (0, 10, 17, 15)]] ({ frames := 9, cells := 1, slots := 6, locals := 165 } : Room) (va_Pc [.ref q1, .int x2, .int x3, .ref q4] (PZ g sz [(q23, .inr (8, [w24, w25, w26, w27, .int 0, w29, w30])), (q20, .inl (g.2 3, 10, .inr (.inr (.inr (.inr f21))))), (q16, .inr (10, [.ref q20, .int 0, w19])), (q1, .inr (11, [.ref q16, w6, w7, w8, w9, w10, w11, w12, w13, w14, w15]))])) (QI g [(q23, .inr (8, [w24, w25, w26, w27, .int 0, w29, w30])), (q20, .inl (g.2 3, 10, .inr (.inr (.inr (.inr f21))))), (q16, .inr (10, [.ref q20, .int 0, w19])), (q1, .inr (11, [.ref q16, w6, w7, w8, w9, w10, w11, w12, w13, w14, w15]))] sz 1 (fun _ => [])) 1 6 (va_A [(q23, .inr (8, [w24, w25, w26, w27, .int 0, w29, w30])), (q20, .inl (g.2 3, 10, .inr (.inr (.inr (.inr f21))))), (q16, .inr (10, [.ref q20, .int 0, w19])), (q1, .inr (11, [.ref q16, w6, w7, w8, w9, w10, w11, w12, w13, w14, w15]))] sz) := by
  refine ofH (by decide) (Nat.le_of_ble_eq_true rfl) rfl ?_
  intro p e s m args below meth c A ls hAe hsz hx hb hml hr hlocks hin hown hE hP hD hA hS hl htb hz
  have hown : s.vm.findClass RL = some m.cls := hown
  refine lv_aload_n hx hb dL_clip_0 rfl (lv_at hl 3 rfl) ?_
  refine lv_iconst (v := 0) hx hb dL_clip_1 (by decide) ?_
  refine lv_aload_n hx hb dL_clip_2 rfl (lv_at hl 0 rfl) ?_
  refine lv_iload_n hx hb dL_clip_3 rfl (lv_at hl 1 rfl) ?_
  refine lv_iload_n hx hb dL_clip_4 rfl (lv_at hl 2 rfl) ?_
  refine gx_i (wr := []) (rVx (rest := [.int 0, .ref q4]) hx hb hml hown hE hP hD hS hA hz 3 rfl rfl (c1615_X9_clip l g hlx q1 q16 q20 q23 x2 x3 w6 w7 w8 w9 w10 w11 w12 w13 w14 w15 w19 w24 w25 w26 w27 w29 w30 f21 (hf22) h31 s.heap.size) (kV_X9_clip hE (e843 hE) rfl rfl ⟨(Nat.le_of_ble_eq_true rfl), (Nat.le_of_ble_eq_true rfl)⟩) [0, 1, 2, 3] rfl (by decide) rfl hl.1 rfl (lv_room (Nat.le_of_ble_eq_true rfl)) dL_clip_5 ⟨(Nat.le_of_ble_eq_true rfl), (Nat.le_of_ble_eq_true rfl)⟩) hP hD hS hA [0, 1, 2, 3] [] rfl rfl (by decide) (by decide) (fun ce9 q9 H locs hP hD hS hq1 hq2 hq3 => ?_)
  have hP : va_P g.1 vwCl [(q1, .inr (11, [.ref q16, w6, w7, w8, w9, w10, w11, w12, w13, w14, w15])), (q20, .inl (g.2 3, 10, .inr (.inr (.inr (.inr f21))))), (q16, .inr (10, [.ref q20, .int 0, w19])), (q23, .inr (8, [w24, w25, w26, w27, .int 0, w29, w30]))] H := hP
  have hD : va_D A [(q1, .inr (11, [.ref q16, w6, w7, w8, w9, w10, w11, w12, w13, w14, w15])), (q20, .inl (g.2 3, 10, .inr (.inr (.inr (.inr f21))))), (q16, .inr (10, [.ref q20, .int 0, w19])), (q23, .inr (8, [w24, w25, w26, w27, .int 0, w29, w30]))] := hD
  refine x_catch (name := "java/lang/IndexOutOfBoundsException") (hh := [(0, 10, 13, 13), (0, 10, 17, 15)]) (tgt := 13) hown htb [] ⟨0, 10, 13, 13⟩ [⟨0, 10, 17, 15⟩] rfl (fun _ h => nomatch h) rfl (by decide) (e532 hE) (e625 hE) hq1 hq2 hq3 rfl ?_
  refine lv_astore (lv' := [(4, .ref q9), (0, .ref q1), (1, .int x2), (2, .int x3), (3, .ref q4)]) hx hb dL_clip_13 hl (by decide) rfl (fun ls hl => ?_)
  refine lv_iconst (v := 1) hx hb dL_clip_15 (by decide) ?_
  exact x_zret hx hb hr rfl rfl hlocks hP hD hS hAe hsz (Nat.le_of_ble_eq_true rfl) (Nat.le_of_ble_eq_true rfl) (fun _ => 0) [] (by decide) rfl dL_clip_16

set_option maxHeartbeats 4000000 in
set_option maxRecDepth 100000 in
theorem c1617_X10_clip (l : Launch) (g : gG) (q1 q41 : Nat) (x2 x3 : Int32) (w5 w6 w7 w8 w9 w10 w11 w12 w13 w14 w15 w16 w17 w18 w19 w20 w21 w22 w23 w24 w25 w26 w27 w28 w29 w30 w31 w32 w33 w34 w35 w36 w37 w38 w39 w40 : Value) (f42 : Nat → Int32) (hf43 : f42 392 = 0) (h44 : x2 < 0) (sz : Nat) : Met l yX10_clip [Cond.code yX10_clip cX10_clip 5 (some .int)] ({ frames := 2, cells := 0, slots := 0, locals := 43 } : Room) (va_Pc [.ref q1, .int x2, .int x3] (PX g sz [(q41, .inl (g.2 0, 497, .inl f42)), (q1, .inr (12, [.ref q41, w5, w6, w7, w8, w9, w10, w11, w12, w13, w14, w15, w16, w17, w18, w19, w20, w21, w22, w23, w24, w25, w26, w27, w28, w29, w30, w31, w32, w33, w34, w35, w36, w37, w38, w39, w40]))])) (QI g [(q41, .inl (g.2 0, 497, .inl f42)), (q1, .inr (12, [.ref q41, w5, w6, w7, w8, w9, w10, w11, w12, w13, w14, w15, w16, w17, w18, w19, w20, w21, w22, w23, w24, w25, w26, w27, w28, w29, w30, w31, w32, w33, w34, w35, w36, w37, w38, w39, w40]))] sz 0 (fun _ => [(q1, .inr (12, [.ref q41, w5, w6, w7, w8, w9, .int 1, w11, w12, w13, w14, w15, w16, w17, w18, w19, w20, w21, w22, w23, w24, w25, w26, w27, w28, w29, w30, w31, w32, w33, w34, w35, w36, w37, w38, w39, w40]))])) 0 0 (va_A [(q41, .inl (g.2 0, 497, .inl f42)), (q1, .inr (12, [.ref q41, w5, w6, w7, w8, w9, w10, w11, w12, w13, w14, w15, w16, w17, w18, w19, w20, w21, w22, w23, w24, w25, w26, w27, w28, w29, w30, w31, w32, w33, w34, w35, w36, w37, w38, w39, w40]))] sz) := by
  refine ofN (by decide) (Nat.le_of_ble_eq_true rfl) rfl ?_
  intro p e s m args below meth c A ls hAe hsz hx hb hml hr hlocks hin hown hE hP hD hA hS hl
  have hown : s.vm.findClass RX10 = some m.cls := hown
  refine lv_aload_n hx hb dX10_clip_0 rfl (lv_at hl 0 rfl) ?_
  refine lv_aload_n hx hb dX10_clip_1 rfl (lv_at hl 0 rfl) ?_
  refine lv_iload_n hx hb dX10_clip_2 rfl (lv_at hl 1 rfl) ?_
  refine g_i (wr := []) (rV (rest := [.ref q1]) hx hb hml hown hE hP hD 1 rfl rfl (c1602_X10_isClip l g q1 q41 x2 w5 w6 w7 w8 w9 w10 w11 w12 w13 w14 w15 w16 w17 w18 w19 w20 w21 w22 w23 w24 w25 w26 w27 w28 w29 w30 w31 w32 w33 w34 w35 w36 w37 w38 w39 w40 f42 (hf43) h44 s.heap.size) (kV_X10_isClip hE (e1527 hE) rfl rfl ⟨(Nat.le_of_ble_eq_true rfl), (Nat.le_of_ble_eq_true rfl)⟩) [0, 1] rfl (by decide) rfl hl.1 rfl (lv_room (Nat.le_of_ble_eq_true rfl)) dX10_clip_3 ⟨(Nat.le_of_ble_eq_true rfl), (Nat.le_of_ble_eq_true rfl)⟩) hP hD hS hA [0, 1] [] rfl rfl (by decide) (by decide) (fun u1 H locs hP hD hS => ?_)
  have hP : va_P g.1 vwCl [(q41, .inl (g.2 0, 497, .inl f42)), (q1, .inr (12, [.ref q41, w5, w6, w7, w8, w9, w10, w11, w12, w13, w14, w15, w16, w17, w18, w19, w20, w21, w22, w23, w24, w25, w26, w27, w28, w29, w30, w31, w32, w33, w34, w35, w36, w37, w38, w39, w40]))] H := hP
  have hD : va_D A [(q41, .inl (g.2 0, 497, .inl f42)), (q1, .inr (12, [.ref q41, w5, w6, w7, w8, w9, w10, w11, w12, w13, w14, w15, w16, w17, w18, w19, w20, w21, w22, w23, w24, w25, w26, w27, w28, w29, w30, w31, w32, w33, w34, w35, w36, w37, w38, w39, w40]))] := hD
  refine lv_if_ne (tgt := 13) hx hb dX10_clip_6 (by decide) (fun h => absurd h (by decide)) (fun _ => ?_)
  refine lv_iconst (v := 1) hx hb dX10_clip_9 (by decide) ?_
  refine lv_goto (tgt := 28) hx hb dX10_clip_10 (by decide) ?_
  refine pf_RX10_86 (ws' := [(q41, .inl (g.2 0, 497, .inl f42)), (q1, .inr (12, [.ref q41, w5, w6, w7, w8, w9, .int 1, w11, w12, w13, w14, w15, w16, w17, w18, w19, w20, w21, w22, w23, w24, w25, w26, w27, w28, w29, w30, w31, w32, w33, w34, w35, w36, w37, w38, w39, w40]))]) hx hb hown hE hP hD hS 1 rfl rfl rfl (Nat.le_of_ble_eq_true rfl) dX10_clip_28 rfl (fun H locs hP hD hS => ?_)
  refine lv_aload_n hx hb dX10_clip_31 rfl (lv_at hl 0 rfl) ?_
  refine gf_RX10_86 hx hb hown hE hP 1 rfl rfl dX10_clip_32 ?_
  refine lv_if_le (tgt := 40) hx hb dX10_clip_35 (by decide) (fun h => absurd h (by decide)) (fun _ => ?_)
  refine lv_iconst (v := 0) hx hb dX10_clip_38 (by decide) ?_
  exact x_zret hx hb hr rfl rfl hlocks hP hD hS hAe hsz (Nat.le_of_ble_eq_true rfl) (Nat.le_of_ble_eq_true rfl) (fun _ => 0) [1] (by decide) rfl dX10_clip_39

set_option maxHeartbeats 4000000 in
set_option maxRecDepth 100000 in
theorem c1618_X9_clip (l : Launch) (g : gG) (hlx : l.stackTraces = false) (q1 q15 q19 q22 : Nat) (x2 x3 : Int32) (w5 w6 w7 w8 w9 w10 w11 w12 w13 w14 w18 w23 w24 w25 w26 w28 w29 : Value) (f20 : Nat → Option Nat) (hf21 : f20 0 = some q22) (h30 : (0 : Int32) ≤ x2) (sz : Nat) : vx_Met l yX9_clip [Cond.code yX9_clip cX9_clip 4 (some .int)] ({ frames := 8, cells := 1, slots := 6, locals := 142 } : Room) (va_Pc [.ref q1, .int x2, .int x3] (PZ g sz [(q22, .inr (8, [w23, w24, w25, w26, .int 0, w28, w29])), (q19, .inl (g.2 3, 10, .inr (.inr (.inr (.inr f20))))), (q15, .inr (10, [.ref q19, .int 0, w18])), (q1, .inr (11, [.ref q15, w5, w6, w7, w8, w9, w10, w11, w12, w13, w14]))])) NI (XW g [(q22, .inr (8, [w23, w24, w25, w26, .int 0, w28, w29])), (q19, .inl (g.2 3, 10, .inr (.inr (.inr (.inr f20))))), (q15, .inr (10, [.ref q19, .int 0, w18])), (q1, .inr (11, [.ref q15, w5, w6, w7, w8, w9, w10, w11, w12, w13, w14]))] sz "java/lang/IndexOutOfBoundsException" [(q1, .inr (11, [.ref q15, w5, w6, w7, w8, w9, w10, w11, w12, w13, w14])), (q19, .inl (g.2 3, 10, .inr (.inr (.inr (.inr f20))))), (q15, .inr (10, [.ref q19, .int 0, w18])), (q22, .inr (8, [w23, w24, w25, w26, .int 0, w28, w29]))]) 1 6 (va_A [(q22, .inr (8, [w23, w24, w25, w26, .int 0, w28, w29])), (q19, .inl (g.2 3, 10, .inr (.inr (.inr (.inr f20))))), (q15, .inr (10, [.ref q19, .int 0, w18])), (q1, .inr (11, [.ref q15, w5, w6, w7, w8, w9, w10, w11, w12, w13, w14]))] sz) := by
  refine ofX (by decide) (Nat.le_of_ble_eq_true rfl) rfl ?_
  intro p e s m args below meth c A ls hAe hsz hx hb hml hr hlocks hin hown hE hP hD hA hS hl hex hz
  have hown : s.vm.findClass RX9 = some m.cls := hown
  refine lv_aload_n hx hb dX9_clip_0 rfl (lv_at hl 0 rfl) ?_
  refine lv_iload_n hx hb dX9_clip_1 rfl (lv_at hl 1 rfl) ?_
  refine gx_v (wr := []) (rVx (rest := []) hx hb hml hown hE hP hD hS hA hz 3 rfl rfl (c1604_X9_requireClip l g hlx q1 q15 q19 q22 x2 w5 w6 w7 w8 w9 w10 w11 w12 w13 w14 w18 w23 w24 w25 w26 w28 w29 f20 (hf21) h30 s.heap.size) (kV_X9_requireClip hE (e819 hE) rfl rfl ⟨(Nat.le_of_ble_eq_true rfl), (Nat.le_of_ble_eq_true rfl)⟩) [0, 1, 2, 3] rfl (by decide) rfl hl.1 rfl (lv_room (Nat.le_of_ble_eq_true rfl)) dX9_clip_2 ⟨(Nat.le_of_ble_eq_true rfl), (Nat.le_of_ble_eq_true rfl)⟩) hP hD hS hA [0, 1, 2, 3] [] rfl rfl (by decide) (by decide) (fun ce9 q9 H locs hP hD hS hq1 hq2 hq3 => ?_)
  exact x_out hex hlocks hq1 hq2 hq3 hP hD hS hAe hsz (Nat.le_of_ble_eq_true rfl) (Nat.le_of_ble_eq_true rfl) [0, 1, 2, 3] (by decide) rfl

set_option maxHeartbeats 4000000 in
set_option maxRecDepth 100000 in
theorem c1619_L_clip (l : Launch) (g : gG) (hlx : l.stackTraces = false) (q1 q4 q16 q20 q23 : Nat) (x2 x3 : Int32) (w6 w7 w8 w9 w10 w11 w12 w13 w14 w15 w19 w24 w25 w26 w27 w29 w30 : Value) (f21 : Nat → Option Nat) (hf22 : f21 0 = some q23) (h31 : (0 : Int32) ≤ x2) (sz : Nat) : Met l yL_clip [Cond.codeWith yL_clip cL_clip 5 (some .int) [(0, 10, 13, 13), (0, 10, 17, 15)]] ({ frames := 9, cells := 1, slots := 6, locals := 165 } : Room) (va_Pc [.ref q1, .int x2, .int x3, .ref q4] (PZ g sz [(q23, .inr (8, [w24, w25, w26, w27, .int 0, w29, w30])), (q20, .inl (g.2 3, 10, .inr (.inr (.inr (.inr f21))))), (q16, .inr (10, [.ref q20, .int 0, w19])), (q1, .inr (11, [.ref q16, w6, w7, w8, w9, w10, w11, w12, w13, w14, w15]))])) (QI g [(q23, .inr (8, [w24, w25, w26, w27, .int 0, w29, w30])), (q20, .inl (g.2 3, 10, .inr (.inr (.inr (.inr f21))))), (q16, .inr (10, [.ref q20, .int 0, w19])), (q1, .inr (11, [.ref q16, w6, w7, w8, w9, w10, w11, w12, w13, w14, w15]))] sz 1 (fun _ => [])) 1 6 (va_A [(q23, .inr (8, [w24, w25, w26, w27, .int 0, w29, w30])), (q20, .inl (g.2 3, 10, .inr (.inr (.inr (.inr f21))))), (q16, .inr (10, [.ref q20, .int 0, w19])), (q1, .inr (11, [.ref q16, w6, w7, w8, w9, w10, w11, w12, w13, w14, w15]))] sz) := by
  refine ofH (by decide) (Nat.le_of_ble_eq_true rfl) rfl ?_
  intro p e s m args below meth c A ls hAe hsz hx hb hml hr hlocks hin hown hE hP hD hA hS hl htb hz
  have hown : s.vm.findClass RL = some m.cls := hown
  refine lv_aload_n hx hb dL_clip_0 rfl (lv_at hl 3 rfl) ?_
  refine lv_iconst (v := 0) hx hb dL_clip_1 (by decide) ?_
  refine lv_aload_n hx hb dL_clip_2 rfl (lv_at hl 0 rfl) ?_
  refine lv_iload_n hx hb dL_clip_3 rfl (lv_at hl 1 rfl) ?_
  refine lv_iload_n hx hb dL_clip_4 rfl (lv_at hl 2 rfl) ?_
  refine gx_i (wr := []) (rVx (rest := [.int 0, .ref q4]) hx hb hml hown hE hP hD hS hA hz 3 rfl rfl (c1618_X9_clip l g hlx q1 q16 q20 q23 x2 x3 w6 w7 w8 w9 w10 w11 w12 w13 w14 w15 w19 w24 w25 w26 w27 w29 w30 f21 (hf22) h31 s.heap.size) (kV_X9_clip hE (e843 hE) rfl rfl ⟨(Nat.le_of_ble_eq_true rfl), (Nat.le_of_ble_eq_true rfl)⟩) [0, 1, 2, 3] rfl (by decide) rfl hl.1 rfl (lv_room (Nat.le_of_ble_eq_true rfl)) dL_clip_5 ⟨(Nat.le_of_ble_eq_true rfl), (Nat.le_of_ble_eq_true rfl)⟩) hP hD hS hA [0, 1, 2, 3] [] rfl rfl (by decide) (by decide) (fun ce9 q9 H locs hP hD hS hq1 hq2 hq3 => ?_)
  have hP : va_P g.1 vwCl [(q1, .inr (11, [.ref q16, w6, w7, w8, w9, w10, w11, w12, w13, w14, w15])), (q20, .inl (g.2 3, 10, .inr (.inr (.inr (.inr f21))))), (q16, .inr (10, [.ref q20, .int 0, w19])), (q23, .inr (8, [w24, w25, w26, w27, .int 0, w29, w30]))] H := hP
  have hD : va_D A [(q1, .inr (11, [.ref q16, w6, w7, w8, w9, w10, w11, w12, w13, w14, w15])), (q20, .inl (g.2 3, 10, .inr (.inr (.inr (.inr f21))))), (q16, .inr (10, [.ref q20, .int 0, w19])), (q23, .inr (8, [w24, w25, w26, w27, .int 0, w29, w30]))] := hD
  refine x_catch (name := "java/lang/IndexOutOfBoundsException") (hh := [(0, 10, 13, 13), (0, 10, 17, 15)]) (tgt := 13) hown htb [] ⟨0, 10, 13, 13⟩ [⟨0, 10, 17, 15⟩] rfl (fun _ h => nomatch h) rfl (by decide) (e532 hE) (e625 hE) hq1 hq2 hq3 rfl ?_
  refine lv_astore (lv' := [(4, .ref q9), (0, .ref q1), (1, .int x2), (2, .int x3), (3, .ref q4)]) hx hb dL_clip_13 hl (by decide) rfl (fun ls hl => ?_)
  refine lv_iconst (v := 1) hx hb dL_clip_15 (by decide) ?_
  exact x_zret hx hb hr rfl rfl hlocks hP hD hS hAe hsz (Nat.le_of_ble_eq_true rfl) (Nat.le_of_ble_eq_true rfl) (fun _ => 0) [] (by decide) rfl dL_clip_16

set_option maxHeartbeats 4000000 in
set_option maxRecDepth 100000 in
theorem c1620_X10_clip (l : Launch) (g : gG) (q1 q41 : Nat) (x2 x3 : Int32) (w5 w6 w7 w8 w9 w10 w11 w12 w13 w14 w15 w16 w17 w18 w19 w20 w21 w22 w23 w24 w25 w26 w27 w28 w29 w30 w31 w32 w33 w34 w35 w36 w37 w38 w39 w40 : Value) (f42 : Nat → Int32) (hf43 : f42 392 = 0) (h44 : (0 : Int32) ≤ x2) (sz : Nat) : Met l yX10_clip [Cond.code yX10_clip cX10_clip 5 (some .int)] ({ frames := 2, cells := 0, slots := 0, locals := 43 } : Room) (va_Pc [.ref q1, .int x2, .int x3] (PX g sz [(q41, .inl (g.2 0, 497, .inl f42)), (q1, .inr (12, [.ref q41, w5, w6, w7, w8, w9, w10, w11, w12, w13, w14, w15, w16, w17, w18, w19, w20, w21, w22, w23, w24, w25, w26, w27, w28, w29, w30, w31, w32, w33, w34, w35, w36, w37, w38, w39, w40]))])) (QI g [(q41, .inl (g.2 0, 497, .inl f42)), (q1, .inr (12, [.ref q41, w5, w6, w7, w8, w9, w10, w11, w12, w13, w14, w15, w16, w17, w18, w19, w20, w21, w22, w23, w24, w25, w26, w27, w28, w29, w30, w31, w32, w33, w34, w35, w36, w37, w38, w39, w40]))] sz 0 (fun _ => [(q1, .inr (12, [.ref q41, w5, w6, w7, w8, w9, .int 1, w11, w12, w13, w14, w15, w16, w17, w18, w19, w20, w21, w22, w23, w24, w25, w26, w27, w28, w29, w30, w31, w32, w33, w34, w35, w36, w37, w38, w39, w40]))])) 0 0 (va_A [(q41, .inl (g.2 0, 497, .inl f42)), (q1, .inr (12, [.ref q41, w5, w6, w7, w8, w9, w10, w11, w12, w13, w14, w15, w16, w17, w18, w19, w20, w21, w22, w23, w24, w25, w26, w27, w28, w29, w30, w31, w32, w33, w34, w35, w36, w37, w38, w39, w40]))] sz) := by
  refine ofN (by decide) (Nat.le_of_ble_eq_true rfl) rfl ?_
  intro p e s m args below meth c A ls hAe hsz hx hb hml hr hlocks hin hown hE hP hD hA hS hl
  have hown : s.vm.findClass RX10 = some m.cls := hown
  refine lv_aload_n hx hb dX10_clip_0 rfl (lv_at hl 0 rfl) ?_
  refine lv_aload_n hx hb dX10_clip_1 rfl (lv_at hl 0 rfl) ?_
  refine lv_iload_n hx hb dX10_clip_2 rfl (lv_at hl 1 rfl) ?_
  refine g_i (wr := []) (rV (rest := [.ref q1]) hx hb hml hown hE hP hD 1 rfl rfl (c1607_X10_isClip l g q1 q41 x2 w5 w6 w7 w8 w9 w10 w11 w12 w13 w14 w15 w16 w17 w18 w19 w20 w21 w22 w23 w24 w25 w26 w27 w28 w29 w30 w31 w32 w33 w34 w35 w36 w37 w38 w39 w40 f42 (hf43) h44 s.heap.size) (kV_X10_isClip hE (e1527 hE) rfl rfl ⟨(Nat.le_of_ble_eq_true rfl), (Nat.le_of_ble_eq_true rfl)⟩) [0, 1] rfl (by decide) rfl hl.1 rfl (lv_room (Nat.le_of_ble_eq_true rfl)) dX10_clip_3 ⟨(Nat.le_of_ble_eq_true rfl), (Nat.le_of_ble_eq_true rfl)⟩) hP hD hS hA [0, 1] [] rfl rfl (by decide) (by decide) (fun u1 H locs hP hD hS => ?_)
  have hP : va_P g.1 vwCl [(q41, .inl (g.2 0, 497, .inl f42)), (q1, .inr (12, [.ref q41, w5, w6, w7, w8, w9, w10, w11, w12, w13, w14, w15, w16, w17, w18, w19, w20, w21, w22, w23, w24, w25, w26, w27, w28, w29, w30, w31, w32, w33, w34, w35, w36, w37, w38, w39, w40]))] H := hP
  have hD : va_D A [(q41, .inl (g.2 0, 497, .inl f42)), (q1, .inr (12, [.ref q41, w5, w6, w7, w8, w9, w10, w11, w12, w13, w14, w15, w16, w17, w18, w19, w20, w21, w22, w23, w24, w25, w26, w27, w28, w29, w30, w31, w32, w33, w34, w35, w36, w37, w38, w39, w40]))] := hD
  refine lv_if_ne (tgt := 13) hx hb dX10_clip_6 (by decide) (fun h => absurd h (by decide)) (fun _ => ?_)
  refine lv_iconst (v := 1) hx hb dX10_clip_9 (by decide) ?_
  refine lv_goto (tgt := 28) hx hb dX10_clip_10 (by decide) ?_
  refine pf_RX10_86 (ws' := [(q41, .inl (g.2 0, 497, .inl f42)), (q1, .inr (12, [.ref q41, w5, w6, w7, w8, w9, .int 1, w11, w12, w13, w14, w15, w16, w17, w18, w19, w20, w21, w22, w23, w24, w25, w26, w27, w28, w29, w30, w31, w32, w33, w34, w35, w36, w37, w38, w39, w40]))]) hx hb hown hE hP hD hS 1 rfl rfl rfl (Nat.le_of_ble_eq_true rfl) dX10_clip_28 rfl (fun H locs hP hD hS => ?_)
  refine lv_aload_n hx hb dX10_clip_31 rfl (lv_at hl 0 rfl) ?_
  refine gf_RX10_86 hx hb hown hE hP 1 rfl rfl dX10_clip_32 ?_
  refine lv_if_le (tgt := 40) hx hb dX10_clip_35 (by decide) (fun h => absurd h (by decide)) (fun _ => ?_)
  refine lv_iconst (v := 0) hx hb dX10_clip_38 (by decide) ?_
  exact x_zret hx hb hr rfl rfl hlocks hP hD hS hAe hsz (Nat.le_of_ble_eq_true rfl) (Nat.le_of_ble_eq_true rfl) (fun _ => 0) [1] (by decide) rfl dX10_clip_39

set_option maxHeartbeats 4000000 in
set_option maxRecDepth 100000 in
theorem c1621_X9_count (l : Launch) (g : gG) (hlx : l.stackTraces = false) (q1 q14 q18 q21 : Nat) (x2 : Int32) (w4 w5 w6 w7 w8 w9 w10 w11 w12 w13 w17 : Value) (f19 : Nat → Option Nat) (hf20 : f19 0 = some q21) (h22 : x2 < 0) (sz : Nat) : vx_Met l yX9_count [Cond.code yX9_count cX9_count 3 (some .int)] ({ frames := 6, cells := 1, slots := 6, locals := 100 } : Room) (va_Pc [.ref q1, .int x2] (PZ g sz [(q18, .inl (g.2 3, 10, .inr (.inr (.inr (.inr f19))))), (q14, .inr (10, [.ref q18, .int 0, w17])), (q1, .inr (11, [.ref q14, w4, w5, w6, w7, w8, w9, w10, w11, w12, w13]))])) NI (XW g [(q18, .inl (g.2 3, 10, .inr (.inr (.inr (.inr f19))))), (q14, .inr (10, [.ref q18, .int 0, w17])), (q1, .inr (11, [.ref q14, w4, w5, w6, w7, w8, w9, w10, w11, w12, w13]))] sz "java/lang/IllegalArgumentException" [(q1, .inr (11, [.ref q14, w4, w5, w6, w7, w8, w9, w10, w11, w12, w13])), (q18, .inl (g.2 3, 10, .inr (.inr (.inr (.inr f19))))), (q14, .inr (10, [.ref q18, .int 0, w17]))]) 1 6 (va_A [(q18, .inl (g.2 3, 10, .inr (.inr (.inr (.inr f19))))), (q14, .inr (10, [.ref q18, .int 0, w17])), (q1, .inr (11, [.ref q14, w4, w5, w6, w7, w8, w9, w10, w11, w12, w13]))] sz) := by
  refine ofX (by decide) (Nat.le_of_ble_eq_true rfl) rfl ?_
  intro p e s m args below meth c A ls hAe hsz hx hb hml hr hlocks hin hown hE hP hD hA hS hl hex hz
  have hown : s.vm.findClass RX9 = some m.cls := hown
  refine lv_aload_n hx hb dX9_count_0 rfl (lv_at hl 0 rfl) ?_
  refine gf_RX9_12 hx hb hown hE hP 2 rfl rfl dX9_count_1 ?_
  refine g_r (wr := [(q1, .inr (11, [.ref q14, w4, w5, w6, w7, w8, w9, w10, w11, w12, w13]))]) (rV (rest := []) hx hb hml hown hE hP hD 1 rfl rfl (c71_X8_current l g q14 q18 q21 w17 f19 (hf20) s.heap.size) (kV_X8_current hE (e290 hE) rfl rfl ⟨(Nat.le_of_ble_eq_true rfl), (Nat.le_of_ble_eq_true rfl)⟩) [0, 1] rfl (by decide) rfl hl.1 rfl (lv_room (Nat.le_of_ble_eq_true rfl)) dX9_count_4 ⟨(Nat.le_of_ble_eq_true rfl), (Nat.le_of_ble_eq_true rfl)⟩) hP hD hS hA [0, 1] [2] rfl rfl (by decide) (by decide) (fun u1 H locs hP hD hS => ?_)
  have hP : va_P g.1 vwCl [(q1, .inr (11, [.ref q14, w4, w5, w6, w7, w8, w9, w10, w11, w12, w13])), (q18, .inl (g.2 3, 10, .inr (.inr (.inr (.inr f19))))), (q14, .inr (10, [.ref q18, .int 0, w17]))] H := hP
  have hD : va_D A [(q1, .inr (11, [.ref q14, w4, w5, w6, w7, w8, w9, w10, w11, w12, w13])), (q18, .inl (g.2 3, 10, .inr (.inr (.inr (.inr f19))))), (q14, .inr (10, [.ref q18, .int 0, w17]))] := hD
  refine lv_astore_n (lv' := [(2, .ref q21), (0, .ref q1), (1, .int x2)]) hx hb dX9_count_7 rfl hl (by decide) rfl (fun ls hl => ?_)
  refine lv_iload_n hx hb dX9_count_8 rfl (lv_at hl 2 rfl) ?_
  refine lv_tableOut (tgt := 123) hx hb dX9_count_9 (Or.inl (i_oL h22)) (by decide) ?_
  exact x_throw (text := "no such count") (names := ["java/lang/RuntimeException", "java/lang/Exception"]) hx hb hlx hown hE (by decide) (by decide) (e639 hE) (e20 hE) (by decide +kernel) (th_215 hE) tg_215_211 hz (by rw [hml]; exact hl.1) dX9_count_123 dX9_count_126 dX9_count_127 dX9_count_129 dX9_count_132 hex (Nat.le_of_ble_eq_true rfl) (Nat.le_of_ble_eq_true rfl) (Nat.le_of_ble_eq_true rfl) (Nat.le_of_ble_eq_true rfl) hlocks hP hD hS hAe hsz (Nat.le_of_ble_eq_true rfl) (Nat.le_of_ble_eq_true rfl) [0, 1, 2] (by decide) rfl

set_option maxHeartbeats 4000000 in
set_option maxRecDepth 100000 in
theorem c1622_L_count (l : Launch) (g : gG) (hlx : l.stackTraces = false) (q1 q3 q15 q19 q22 : Nat) (x2 : Int32) (w5 w6 w7 w8 w9 w10 w11 w12 w13 w14 w18 : Value) (f20 : Nat → Option Nat) (hf21 : f20 0 = some q22) (h23 : x2 < 0) (sz : Nat) : Met l yL_count [Cond.codeWith yL_count cL_count 4 (some .int) [(0, 9, 12, 15)]] ({ frames := 7, cells := 1, slots := 6, locals := 122 } : Room) (va_Pc [.ref q1, .int x2, .ref q3] (PZ g sz [(q19, .inl (g.2 3, 10, .inr (.inr (.inr (.inr f20))))), (q15, .inr (10, [.ref q19, .int 0, w18])), (q1, .inr (11, [.ref q15, w5, w6, w7, w8, w9, w10, w11, w12, w13, w14]))])) (QI g [(q19, .inl (g.2 3, 10, .inr (.inr (.inr (.inr f20))))), (q15, .inr (10, [.ref q19, .int 0, w18])), (q1, .inr (11, [.ref q15, w5, w6, w7, w8, w9, w10, w11, w12, w13, w14]))] sz 1 (fun _ => [])) 1 6 (va_A [(q19, .inl (g.2 3, 10, .inr (.inr (.inr (.inr f20))))), (q15, .inr (10, [.ref q19, .int 0, w18])), (q1, .inr (11, [.ref q15, w5, w6, w7, w8, w9, w10, w11, w12, w13, w14]))] sz) := by
  refine ofH (by decide) (Nat.le_of_ble_eq_true rfl) rfl ?_
  intro p e s m args below meth c A ls hAe hsz hx hb hml hr hlocks hin hown hE hP hD hA hS hl htb hz
  have hown : s.vm.findClass RL = some m.cls := hown
  refine lv_aload_n hx hb dL_count_0 rfl (lv_at hl 2 rfl) ?_
  refine lv_iconst (v := 0) hx hb dL_count_1 (by decide) ?_
  refine lv_aload_n hx hb dL_count_2 rfl (lv_at hl 0 rfl) ?_
  refine lv_iload_n hx hb dL_count_3 rfl (lv_at hl 1 rfl) ?_
  refine gx_i (wr := []) (rVx (rest := [.int 0, .ref q3]) hx hb hml hown hE hP hD hS hA hz 2 rfl rfl (c1621_X9_count l g hlx q1 q15 q19 q22 x2 w5 w6 w7 w8 w9 w10 w11 w12 w13 w14 w18 f20 (hf21) h23 s.heap.size) (kV_X9_count hE (e852 hE) rfl rfl ⟨(Nat.le_of_ble_eq_true rfl), (Nat.le_of_ble_eq_true rfl)⟩) [0, 1, 2] rfl (by decide) rfl hl.1 rfl (lv_room (Nat.le_of_ble_eq_true rfl)) dL_count_4 ⟨(Nat.le_of_ble_eq_true rfl), (Nat.le_of_ble_eq_true rfl)⟩) hP hD hS hA [0, 1, 2] [] rfl rfl (by decide) (by decide) (fun ce9 q9 H locs hP hD hS hq1 hq2 hq3 => ?_)
  have hP : va_P g.1 vwCl [(q1, .inr (11, [.ref q15, w5, w6, w7, w8, w9, w10, w11, w12, w13, w14])), (q19, .inl (g.2 3, 10, .inr (.inr (.inr (.inr f20))))), (q15, .inr (10, [.ref q19, .int 0, w18]))] H := hP
  have hD : va_D A [(q1, .inr (11, [.ref q15, w5, w6, w7, w8, w9, w10, w11, w12, w13, w14])), (q19, .inl (g.2 3, 10, .inr (.inr (.inr (.inr f20))))), (q15, .inr (10, [.ref q19, .int 0, w18]))] := hD
  refine x_catch (name := "java/lang/IllegalArgumentException") (hh := [(0, 9, 12, 15)]) (tgt := 12) hown htb [] ⟨0, 9, 12, 15⟩ [] rfl (fun _ h => nomatch h) rfl (by decide) (e611 hE) (e641 hE) hq1 hq2 hq3 rfl ?_
  refine lv_astore_n (lv' := [(3, .ref q9), (0, .ref q1), (1, .int x2), (2, .ref q3)]) hx hb dL_count_12 rfl hl (by decide) rfl (fun ls hl => ?_)
  refine lv_iconst (v := 1) hx hb dL_count_13 (by decide) ?_
  exact x_zret hx hb hr rfl rfl hlocks hP hD hS hAe hsz (Nat.le_of_ble_eq_true rfl) (Nat.le_of_ble_eq_true rfl) (fun _ => 0) [] (by decide) rfl dL_count_14

set_option maxHeartbeats 4000000 in
set_option maxRecDepth 100000 in
theorem c1623_X10_count (l : Launch) (g : gG) (q1 : Nat) (x2 : Int32) (w3 w4 w5 w6 w7 w8 w9 w10 w11 w12 w13 w14 w15 w16 w17 w18 w19 w20 w21 w22 w23 w24 w25 w26 w27 w28 w29 w30 w31 w32 w33 w34 w35 w36 w37 w38 w39 : Value) (h40 : x2 < 0) (sz : Nat) : Met l yX10_count [Cond.code yX10_count cX10_count 6 (some .int)] ({ frames := 1, cells := 0, slots := 0, locals := 22 } : Room) (va_Pc [.ref q1, .int x2] (PX g sz [(q1, .inr (12, [w3, w4, w5, w6, w7, w8, w9, w10, w11, w12, w13, w14, w15, w16, w17, w18, w19, w20, w21, w22, w23, w24, w25, w26, w27, w28, w29, w30, w31, w32, w33, w34, w35, w36, w37, w38, w39]))])) (QI g [(q1, .inr (12, [w3, w4, w5, w6, w7, w8, w9, w10, w11, w12, w13, w14, w15, w16, w17, w18, w19, w20, w21, w22, w23, w24, w25, w26, w27, w28, w29, w30, w31, w32, w33, w34, w35, w36, w37, w38, w39]))] sz 0 (fun _ => [(q1, .inr (12, [w3, w4, w5, w6, w7, w8, .int 1, w10, w11, w12, w13, w14, w15, w16, w17, w18, w19, w20, w21, w22, w23, w24, w25, w26, w27, w28, w29, w30, w31, w32, w33, w34, w35, w36, w37, w38, w39]))])) 0 0 (va_A [(q1, .inr (12, [w3, w4, w5, w6, w7, w8, w9, w10, w11, w12, w13, w14, w15, w16, w17, w18, w19, w20, w21, w22, w23, w24, w25, w26, w27, w28, w29, w30, w31, w32, w33, w34, w35, w36, w37, w38, w39]))] sz) := by
  refine ofN (by decide) (Nat.le_of_ble_eq_true rfl) rfl ?_
  intro p e s m args below meth c A ls hAe hsz hx hb hml hr hlocks hin hown hE hP hD hA hS hl
  have hown : s.vm.findClass RX10 = some m.cls := hown
  refine lv_aload_n hx hb dX10_count_0 rfl (lv_at hl 0 rfl) ?_
  refine lv_iconst (v := 0) hx hb dX10_count_1 (by decide) ?_
  refine pf_RX10_86 (ws' := [(q1, .inr (12, [w3, w4, w5, w6, w7, w8, .int 0, w10, w11, w12, w13, w14, w15, w16, w17, w18, w19, w20, w21, w22, w23, w24, w25, w26, w27, w28, w29, w30, w31, w32, w33, w34, w35, w36, w37, w38, w39]))]) hx hb hown hE hP hD hS 0 rfl rfl rfl (Nat.le_of_ble_eq_true rfl) dX10_count_2 rfl (fun H locs hP hD hS => ?_)
  refine lv_iload_n hx hb dX10_count_5 rfl (lv_at hl 1 rfl) ?_
  refine lv_iconst (v := 0) hx hb dX10_count_6 (by decide) ?_
  refine lv_bipush (v := 8) hx hb dX10_count_7 (by decide) ?_
  refine g0_i (rS (rest := []) hx hb hml hown hE hP hD (c642_X10_in l g x2 8 h40 H.size) (kS_X10_in hE (e1431 hE) rfl rfl ⟨(Nat.le_of_ble_eq_true rfl), (Nat.le_of_ble_eq_true rfl)⟩) [] rfl (by decide) rfl hl.1 rfl (lv_room (Nat.le_of_ble_eq_true rfl)) dX10_count_9 ⟨(Nat.le_of_ble_eq_true rfl), (Nat.le_of_ble_eq_true rfl)⟩) hP hD hS hA (fun u9 H locs hP hS => ?_)
  refine lv_if_ne (tgt := 21) hx hb dX10_count_12 (by decide) (fun h => absurd h (by decide)) (fun _ => ?_)
  refine lv_aload_n hx hb dX10_count_15 rfl (lv_at hl 0 rfl) ?_
  refine lv_iconst (v := 1) hx hb dX10_count_16 (by decide) ?_
  refine g_i (wr := []) (rV (rest := []) hx hb hml hown hE hP hD 0 rfl rfl (c1475_X10_refuse l g q1 w3 w4 w5 w6 w7 w8 (.int 0) w10 w11 w12 w13 w14 w15 w16 w17 w18 w19 w20 w21 w22 w23 w24 w25 w26 w27 w28 w29 w30 w31 w32 w33 w34 w35 w36 w37 w38 w39 H.size) (kV_X10_refuse hE (e1474 hE) rfl rfl ⟨(Nat.le_of_ble_eq_true rfl), (Nat.le_of_ble_eq_true rfl)⟩) [0] rfl (by decide) rfl hl.1 rfl (lv_room (Nat.le_of_ble_eq_true rfl)) dX10_count_17 ⟨(Nat.le_of_ble_eq_true rfl), (Nat.le_of_ble_eq_true rfl)⟩) hP hD hS hA [0] [] rfl rfl (by decide) (by decide) (fun u2 H locs hP hD hS => ?_)
  have hP : va_P g.1 vwCl [(q1, .inr (12, [w3, w4, w5, w6, w7, w8, .int 1, w10, w11, w12, w13, w14, w15, w16, w17, w18, w19, w20, w21, w22, w23, w24, w25, w26, w27, w28, w29, w30, w31, w32, w33, w34, w35, w36, w37, w38, w39]))] H := hP
  have hD : va_D A [(q1, .inr (12, [w3, w4, w5, w6, w7, w8, .int 1, w10, w11, w12, w13, w14, w15, w16, w17, w18, w19, w20, w21, w22, w23, w24, w25, w26, w27, w28, w29, w30, w31, w32, w33, w34, w35, w36, w37, w38, w39]))] := hD
  exact x_zret hx hb hr rfl rfl hlocks hP hD hS hAe hsz (Nat.le_of_ble_eq_true rfl) (Nat.le_of_ble_eq_true rfl) (fun _ => 0) [0] (by decide) rfl dX10_count_20

set_option maxHeartbeats 4000000 in
set_option maxRecDepth 100000 in
theorem c1624_X9_count (l : Launch) (g : gG) (hlx : l.stackTraces = false) (q1 q14 q18 q21 : Nat) (x2 : Int32) (w4 w5 w6 w7 w8 w9 w10 w11 w12 w13 w17 : Value) (f19 : Nat → Option Nat) (hf20 : f19 0 = some q21) (h22 : (0 : Int32) ≤ x2) (h23 : (8 : Int32) < x2) (sz : Nat) : vx_Met l yX9_count [Cond.code yX9_count cX9_count 3 (some .int)] ({ frames := 6, cells := 1, slots := 6, locals := 100 } : Room) (va_Pc [.ref q1, .int x2] (PZ g sz [(q18, .inl (g.2 3, 10, .inr (.inr (.inr (.inr f19))))), (q14, .inr (10, [.ref q18, .int 0, w17])), (q1, .inr (11, [.ref q14, w4, w5, w6, w7, w8, w9, w10, w11, w12, w13]))])) NI (XW g [(q18, .inl (g.2 3, 10, .inr (.inr (.inr (.inr f19))))), (q14, .inr (10, [.ref q18, .int 0, w17])), (q1, .inr (11, [.ref q14, w4, w5, w6, w7, w8, w9, w10, w11, w12, w13]))] sz "java/lang/IllegalArgumentException" [(q1, .inr (11, [.ref q14, w4, w5, w6, w7, w8, w9, w10, w11, w12, w13])), (q18, .inl (g.2 3, 10, .inr (.inr (.inr (.inr f19))))), (q14, .inr (10, [.ref q18, .int 0, w17]))]) 1 6 (va_A [(q18, .inl (g.2 3, 10, .inr (.inr (.inr (.inr f19))))), (q14, .inr (10, [.ref q18, .int 0, w17])), (q1, .inr (11, [.ref q14, w4, w5, w6, w7, w8, w9, w10, w11, w12, w13]))] sz) := by
  refine ofX (by decide) (Nat.le_of_ble_eq_true rfl) rfl ?_
  intro p e s m args below meth c A ls hAe hsz hx hb hml hr hlocks hin hown hE hP hD hA hS hl hex hz
  have hown : s.vm.findClass RX9 = some m.cls := hown
  refine lv_aload_n hx hb dX9_count_0 rfl (lv_at hl 0 rfl) ?_
  refine gf_RX9_12 hx hb hown hE hP 2 rfl rfl dX9_count_1 ?_
  refine g_r (wr := [(q1, .inr (11, [.ref q14, w4, w5, w6, w7, w8, w9, w10, w11, w12, w13]))]) (rV (rest := []) hx hb hml hown hE hP hD 1 rfl rfl (c71_X8_current l g q14 q18 q21 w17 f19 (hf20) s.heap.size) (kV_X8_current hE (e290 hE) rfl rfl ⟨(Nat.le_of_ble_eq_true rfl), (Nat.le_of_ble_eq_true rfl)⟩) [0, 1] rfl (by decide) rfl hl.1 rfl (lv_room (Nat.le_of_ble_eq_true rfl)) dX9_count_4 ⟨(Nat.le_of_ble_eq_true rfl), (Nat.le_of_ble_eq_true rfl)⟩) hP hD hS hA [0, 1] [2] rfl rfl (by decide) (by decide) (fun u1 H locs hP hD hS => ?_)
  have hP : va_P g.1 vwCl [(q1, .inr (11, [.ref q14, w4, w5, w6, w7, w8, w9, w10, w11, w12, w13])), (q18, .inl (g.2 3, 10, .inr (.inr (.inr (.inr f19))))), (q14, .inr (10, [.ref q18, .int 0, w17]))] H := hP
  have hD : va_D A [(q1, .inr (11, [.ref q14, w4, w5, w6, w7, w8, w9, w10, w11, w12, w13])), (q18, .inl (g.2 3, 10, .inr (.inr (.inr (.inr f19))))), (q14, .inr (10, [.ref q18, .int 0, w17]))] := hD
  refine lv_astore_n (lv' := [(2, .ref q21), (0, .ref q1), (1, .int x2)]) hx hb dX9_count_7 rfl hl (by decide) rfl (fun ls hl => ?_)
  refine lv_iload_n hx hb dX9_count_8 rfl (lv_at hl 2 rfl) ?_
  refine lv_tableOut (tgt := 123) hx hb dX9_count_9 (Or.inr (i_oL h23)) (by decide) ?_
  exact x_throw (text := "no such count") (names := ["java/lang/RuntimeException", "java/lang/Exception"]) hx hb hlx hown hE (by decide) (by decide) (e639 hE) (e20 hE) (by decide +kernel) (th_215 hE) tg_215_211 hz (by rw [hml]; exact hl.1) dX9_count_123 dX9_count_126 dX9_count_127 dX9_count_129 dX9_count_132 hex (Nat.le_of_ble_eq_true rfl) (Nat.le_of_ble_eq_true rfl) (Nat.le_of_ble_eq_true rfl) (Nat.le_of_ble_eq_true rfl) hlocks hP hD hS hAe hsz (Nat.le_of_ble_eq_true rfl) (Nat.le_of_ble_eq_true rfl) [0, 1, 2] (by decide) rfl

set_option maxHeartbeats 4000000 in
set_option maxRecDepth 100000 in
theorem c1625_L_count (l : Launch) (g : gG) (hlx : l.stackTraces = false) (q1 q3 q15 q19 q22 : Nat) (x2 : Int32) (w5 w6 w7 w8 w9 w10 w11 w12 w13 w14 w18 : Value) (f20 : Nat → Option Nat) (hf21 : f20 0 = some q22) (h23 : (0 : Int32) ≤ x2) (h24 : (8 : Int32) < x2) (sz : Nat) : Met l yL_count [Cond.codeWith yL_count cL_count 4 (some .int) [(0, 9, 12, 15)]] ({ frames := 7, cells := 1, slots := 6, locals := 122 } : Room) (va_Pc [.ref q1, .int x2, .ref q3] (PZ g sz [(q19, .inl (g.2 3, 10, .inr (.inr (.inr (.inr f20))))), (q15, .inr (10, [.ref q19, .int 0, w18])), (q1, .inr (11, [.ref q15, w5, w6, w7, w8, w9, w10, w11, w12, w13, w14]))])) (QI g [(q19, .inl (g.2 3, 10, .inr (.inr (.inr (.inr f20))))), (q15, .inr (10, [.ref q19, .int 0, w18])), (q1, .inr (11, [.ref q15, w5, w6, w7, w8, w9, w10, w11, w12, w13, w14]))] sz 1 (fun _ => [])) 1 6 (va_A [(q19, .inl (g.2 3, 10, .inr (.inr (.inr (.inr f20))))), (q15, .inr (10, [.ref q19, .int 0, w18])), (q1, .inr (11, [.ref q15, w5, w6, w7, w8, w9, w10, w11, w12, w13, w14]))] sz) := by
  refine ofH (by decide) (Nat.le_of_ble_eq_true rfl) rfl ?_
  intro p e s m args below meth c A ls hAe hsz hx hb hml hr hlocks hin hown hE hP hD hA hS hl htb hz
  have hown : s.vm.findClass RL = some m.cls := hown
  refine lv_aload_n hx hb dL_count_0 rfl (lv_at hl 2 rfl) ?_
  refine lv_iconst (v := 0) hx hb dL_count_1 (by decide) ?_
  refine lv_aload_n hx hb dL_count_2 rfl (lv_at hl 0 rfl) ?_
  refine lv_iload_n hx hb dL_count_3 rfl (lv_at hl 1 rfl) ?_
  refine gx_i (wr := []) (rVx (rest := [.int 0, .ref q3]) hx hb hml hown hE hP hD hS hA hz 2 rfl rfl (c1624_X9_count l g hlx q1 q15 q19 q22 x2 w5 w6 w7 w8 w9 w10 w11 w12 w13 w14 w18 f20 (hf21) h23 h24 s.heap.size) (kV_X9_count hE (e852 hE) rfl rfl ⟨(Nat.le_of_ble_eq_true rfl), (Nat.le_of_ble_eq_true rfl)⟩) [0, 1, 2] rfl (by decide) rfl hl.1 rfl (lv_room (Nat.le_of_ble_eq_true rfl)) dL_count_4 ⟨(Nat.le_of_ble_eq_true rfl), (Nat.le_of_ble_eq_true rfl)⟩) hP hD hS hA [0, 1, 2] [] rfl rfl (by decide) (by decide) (fun ce9 q9 H locs hP hD hS hq1 hq2 hq3 => ?_)
  have hP : va_P g.1 vwCl [(q1, .inr (11, [.ref q15, w5, w6, w7, w8, w9, w10, w11, w12, w13, w14])), (q19, .inl (g.2 3, 10, .inr (.inr (.inr (.inr f20))))), (q15, .inr (10, [.ref q19, .int 0, w18]))] H := hP
  have hD : va_D A [(q1, .inr (11, [.ref q15, w5, w6, w7, w8, w9, w10, w11, w12, w13, w14])), (q19, .inl (g.2 3, 10, .inr (.inr (.inr (.inr f20))))), (q15, .inr (10, [.ref q19, .int 0, w18]))] := hD
  refine x_catch (name := "java/lang/IllegalArgumentException") (hh := [(0, 9, 12, 15)]) (tgt := 12) hown htb [] ⟨0, 9, 12, 15⟩ [] rfl (fun _ h => nomatch h) rfl (by decide) (e611 hE) (e641 hE) hq1 hq2 hq3 rfl ?_
  refine lv_astore_n (lv' := [(3, .ref q9), (0, .ref q1), (1, .int x2), (2, .ref q3)]) hx hb dL_count_12 rfl hl (by decide) rfl (fun ls hl => ?_)
  refine lv_iconst (v := 1) hx hb dL_count_13 (by decide) ?_
  exact x_zret hx hb hr rfl rfl hlocks hP hD hS hAe hsz (Nat.le_of_ble_eq_true rfl) (Nat.le_of_ble_eq_true rfl) (fun _ => 0) [] (by decide) rfl dL_count_14

set_option maxHeartbeats 4000000 in
set_option maxRecDepth 100000 in
theorem c1626_X10_in (l : Launch) (g : gG) (x1 : Int32) (h2 : (0 : Int32) ≤ x1) (h3 : (8 : Int32) < x1) (sz : Nat) : Met l yX10_in [Cond.code yX10_in cX10_in 3 (some .boolean)] ({ frames := 0, cells := 0, slots := 0, locals := 0 } : Room) (va_Pc [.int x1, .int 0, .int 8] (PX g sz [])) (QI g [] sz 0 (fun _ => [])) 0 0 (va_A [] sz) := by
  refine ofN (by decide) (Nat.le_of_ble_eq_true rfl) rfl ?_
  intro p e s m args below meth c A ls hAe hsz hx hb hml hr hlocks hin hown hE hP hD hA hS hl
  have hown : s.vm.findClass RX10 = some m.cls := hown
  refine lv_iload_n hx hb dX10_in_0 rfl (lv_at hl 0 rfl) ?_
  refine lv_iload_n hx hb dX10_in_1 rfl (lv_at hl 1 rfl) ?_
  refine lv_icmp_lt (tgt := 14) hx hb dX10_in_2 (by decide) (fun h => absurd h (i_nlt h2)) (fun _ => ?_)
  refine lv_iload_n hx hb dX10_in_5 rfl (lv_at hl 0 rfl) ?_
  refine lv_iload_n hx hb dX10_in_6 rfl (lv_at hl 2 rfl) ?_
  refine lv_icmp_gt (tgt := 14) hx hb dX10_in_7 (by decide) (fun _ => ?_) (fun h => absurd h3 h)
  refine lv_iconst (v := 0) hx hb dX10_in_14 (by decide) ?_
  exact x_zret hx hb hr rfl rfl hlocks hP hD hS hAe hsz (Nat.le_of_ble_eq_true rfl) (Nat.le_of_ble_eq_true rfl) (fun _ => 0) [] (by decide) rfl dX10_in_15

set_option maxHeartbeats 4000000 in
set_option maxRecDepth 100000 in
theorem c1627_X10_count (l : Launch) (g : gG) (q1 : Nat) (x2 : Int32) (w3 w4 w5 w6 w7 w8 w9 w10 w11 w12 w13 w14 w15 w16 w17 w18 w19 w20 w21 w22 w23 w24 w25 w26 w27 w28 w29 w30 w31 w32 w33 w34 w35 w36 w37 w38 w39 : Value) (h40 : (0 : Int32) ≤ x2) (h41 : (8 : Int32) < x2) (sz : Nat) : Met l yX10_count [Cond.code yX10_count cX10_count 6 (some .int)] ({ frames := 1, cells := 0, slots := 0, locals := 22 } : Room) (va_Pc [.ref q1, .int x2] (PX g sz [(q1, .inr (12, [w3, w4, w5, w6, w7, w8, w9, w10, w11, w12, w13, w14, w15, w16, w17, w18, w19, w20, w21, w22, w23, w24, w25, w26, w27, w28, w29, w30, w31, w32, w33, w34, w35, w36, w37, w38, w39]))])) (QI g [(q1, .inr (12, [w3, w4, w5, w6, w7, w8, w9, w10, w11, w12, w13, w14, w15, w16, w17, w18, w19, w20, w21, w22, w23, w24, w25, w26, w27, w28, w29, w30, w31, w32, w33, w34, w35, w36, w37, w38, w39]))] sz 0 (fun _ => [(q1, .inr (12, [w3, w4, w5, w6, w7, w8, .int 1, w10, w11, w12, w13, w14, w15, w16, w17, w18, w19, w20, w21, w22, w23, w24, w25, w26, w27, w28, w29, w30, w31, w32, w33, w34, w35, w36, w37, w38, w39]))])) 0 0 (va_A [(q1, .inr (12, [w3, w4, w5, w6, w7, w8, w9, w10, w11, w12, w13, w14, w15, w16, w17, w18, w19, w20, w21, w22, w23, w24, w25, w26, w27, w28, w29, w30, w31, w32, w33, w34, w35, w36, w37, w38, w39]))] sz) := by
  refine ofN (by decide) (Nat.le_of_ble_eq_true rfl) rfl ?_
  intro p e s m args below meth c A ls hAe hsz hx hb hml hr hlocks hin hown hE hP hD hA hS hl
  have hown : s.vm.findClass RX10 = some m.cls := hown
  refine lv_aload_n hx hb dX10_count_0 rfl (lv_at hl 0 rfl) ?_
  refine lv_iconst (v := 0) hx hb dX10_count_1 (by decide) ?_
  refine pf_RX10_86 (ws' := [(q1, .inr (12, [w3, w4, w5, w6, w7, w8, .int 0, w10, w11, w12, w13, w14, w15, w16, w17, w18, w19, w20, w21, w22, w23, w24, w25, w26, w27, w28, w29, w30, w31, w32, w33, w34, w35, w36, w37, w38, w39]))]) hx hb hown hE hP hD hS 0 rfl rfl rfl (Nat.le_of_ble_eq_true rfl) dX10_count_2 rfl (fun H locs hP hD hS => ?_)
  refine lv_iload_n hx hb dX10_count_5 rfl (lv_at hl 1 rfl) ?_
  refine lv_iconst (v := 0) hx hb dX10_count_6 (by decide) ?_
  refine lv_bipush (v := 8) hx hb dX10_count_7 (by decide) ?_
  refine g0_i (rS (rest := []) hx hb hml hown hE hP hD (c1626_X10_in l g x2 h40 h41 H.size) (kS_X10_in hE (e1431 hE) rfl rfl ⟨(Nat.le_of_ble_eq_true rfl), (Nat.le_of_ble_eq_true rfl)⟩) [] rfl (by decide) rfl hl.1 rfl (lv_room (Nat.le_of_ble_eq_true rfl)) dX10_count_9 ⟨(Nat.le_of_ble_eq_true rfl), (Nat.le_of_ble_eq_true rfl)⟩) hP hD hS hA (fun u9 H locs hP hS => ?_)
  refine lv_if_ne (tgt := 21) hx hb dX10_count_12 (by decide) (fun h => absurd h (by decide)) (fun _ => ?_)
  refine lv_aload_n hx hb dX10_count_15 rfl (lv_at hl 0 rfl) ?_
  refine lv_iconst (v := 1) hx hb dX10_count_16 (by decide) ?_
  refine g_i (wr := []) (rV (rest := []) hx hb hml hown hE hP hD 0 rfl rfl (c1475_X10_refuse l g q1 w3 w4 w5 w6 w7 w8 (.int 0) w10 w11 w12 w13 w14 w15 w16 w17 w18 w19 w20 w21 w22 w23 w24 w25 w26 w27 w28 w29 w30 w31 w32 w33 w34 w35 w36 w37 w38 w39 H.size) (kV_X10_refuse hE (e1474 hE) rfl rfl ⟨(Nat.le_of_ble_eq_true rfl), (Nat.le_of_ble_eq_true rfl)⟩) [0] rfl (by decide) rfl hl.1 rfl (lv_room (Nat.le_of_ble_eq_true rfl)) dX10_count_17 ⟨(Nat.le_of_ble_eq_true rfl), (Nat.le_of_ble_eq_true rfl)⟩) hP hD hS hA [0] [] rfl rfl (by decide) (by decide) (fun u2 H locs hP hD hS => ?_)
  have hP : va_P g.1 vwCl [(q1, .inr (12, [w3, w4, w5, w6, w7, w8, .int 1, w10, w11, w12, w13, w14, w15, w16, w17, w18, w19, w20, w21, w22, w23, w24, w25, w26, w27, w28, w29, w30, w31, w32, w33, w34, w35, w36, w37, w38, w39]))] H := hP
  have hD : va_D A [(q1, .inr (12, [w3, w4, w5, w6, w7, w8, .int 1, w10, w11, w12, w13, w14, w15, w16, w17, w18, w19, w20, w21, w22, w23, w24, w25, w26, w27, w28, w29, w30, w31, w32, w33, w34, w35, w36, w37, w38, w39]))] := hD
  exact x_zret hx hb hr rfl rfl hlocks hP hD hS hAe hsz (Nat.le_of_ble_eq_true rfl) (Nat.le_of_ble_eq_true rfl) (fun _ => 0) [0] (by decide) rfl dX10_count_20

set_option maxHeartbeats 4000000 in
set_option maxRecDepth 100000 in
theorem c1628_X9_count (l : Launch) (g : gG) (q1 q13 q17 q20 : Nat) (w3 w4 w5 w6 w7 w8 w9 w10 w11 w12 w16 w21 w22 w23 w24 w26 w27 : Value) (f18 : Nat → Option Nat) (hf19 : f18 0 = some q20) (sz : Nat) : Met l yX9_count [Cond.code yX9_count cX9_count 3 (some .int)] ({ frames := 2, cells := 0, slots := 0, locals := 42 } : Room) (va_Pc [.ref q1, .int 0] (PX g sz [(q20, .inr (8, [w21, w22, w23, w24, .int 0, w26, w27])), (q17, .inl (g.2 3, 10, .inr (.inr (.inr (.inr f18))))), (q13, .inr (10, [.ref q17, .int 0, w16])), (q1, .inr (11, [.ref q13, w3, w4, w5, w6, w7, w8, w9, w10, w11, w12]))])) (QI g [(q20, .inr (8, [w21, w22, w23, w24, .int 0, w26, w27])), (q17, .inl (g.2 3, 10, .inr (.inr (.inr (.inr f18))))), (q13, .inr (10, [.ref q17, .int 0, w16])), (q1, .inr (11, [.ref q13, w3, w4, w5, w6, w7, w8, w9, w10, w11, w12]))] sz 0 (fun _ => [(q1, .inr (11, [.ref q13, w3, w4, w5, w6, w7, w8, w9, w10, w11, w12])), (q17, .inl (g.2 3, 10, .inr (.inr (.inr (.inr f18))))), (q13, .inr (10, [.ref q17, .int 0, w16])), (q20, .inr (8, [w21, w22, w23, w24, .int 0, w26, w27]))])) 0 0 (va_A [(q20, .inr (8, [w21, w22, w23, w24, .int 0, w26, w27])), (q17, .inl (g.2 3, 10, .inr (.inr (.inr (.inr f18))))), (q13, .inr (10, [.ref q17, .int 0, w16])), (q1, .inr (11, [.ref q13, w3, w4, w5, w6, w7, w8, w9, w10, w11, w12]))] sz) := by
  refine ofN (by decide) (Nat.le_of_ble_eq_true rfl) rfl ?_
  intro p e s m args below meth c A ls hAe hsz hx hb hml hr hlocks hin hown hE hP hD hA hS hl
  have hown : s.vm.findClass RX9 = some m.cls := hown
  refine lv_aload_n hx hb dX9_count_0 rfl (lv_at hl 0 rfl) ?_
  refine gf_RX9_12 hx hb hown hE hP 3 rfl rfl dX9_count_1 ?_
  refine g_r (wr := [(q20, .inr (8, [w21, w22, w23, w24, .int 0, w26, w27])), (q1, .inr (11, [.ref q13, w3, w4, w5, w6, w7, w8, w9, w10, w11, w12]))]) (rV (rest := []) hx hb hml hown hE hP hD 2 rfl rfl (c71_X8_current l g q13 q17 q20 w16 f18 (hf19) s.heap.size) (kV_X8_current hE (e290 hE) rfl rfl ⟨(Nat.le_of_ble_eq_true rfl), (Nat.le_of_ble_eq_true rfl)⟩) [1, 2] rfl (by decide) rfl hl.1 rfl (lv_room (Nat.le_of_ble_eq_true rfl)) dX9_count_4 ⟨(Nat.le_of_ble_eq_true rfl), (Nat.le_of_ble_eq_true rfl)⟩) hP hD hS hA [1, 2] [0, 3] rfl rfl (by decide) (by decide) (fun u1 H locs hP hD hS => ?_)
  have hP : va_P g.1 vwCl [(q20, .inr (8, [w21, w22, w23, w24, .int 0, w26, w27])), (q1, .inr (11, [.ref q13, w3, w4, w5, w6, w7, w8, w9, w10, w11, w12])), (q17, .inl (g.2 3, 10, .inr (.inr (.inr (.inr f18))))), (q13, .inr (10, [.ref q17, .int 0, w16]))] H := hP
  have hD : va_D A [(q20, .inr (8, [w21, w22, w23, w24, .int 0, w26, w27])), (q1, .inr (11, [.ref q13, w3, w4, w5, w6, w7, w8, w9, w10, w11, w12])), (q17, .inl (g.2 3, 10, .inr (.inr (.inr (.inr f18))))), (q13, .inr (10, [.ref q17, .int 0, w16]))] := hD
  refine lv_astore_n (lv' := [(2, .ref q20), (0, .ref q1), (1, .int 0)]) hx hb dX9_count_7 rfl hl (by decide) rfl (fun ls hl => ?_)
  refine lv_iload_n hx hb dX9_count_8 rfl (lv_at hl 2 rfl) ?_
  refine lv_tableIn (tgt := 60) hx hb dX9_count_9 (by decide) (by decide) rfl (by decide) ?_
  refine lv_aload_n hx hb dX9_count_60 rfl (lv_at hl 0 rfl) ?_
  refine g_i (wr := [(q1, .inr (11, [.ref q13, w3, w4, w5, w6, w7, w8, w9, w10, w11, w12])), (q17, .inl (g.2 3, 10, .inr (.inr (.inr (.inr f18))))), (q13, .inr (10, [.ref q17, .int 0, w16]))]) (rV (rest := []) hx hb hml hown hE hP hD 0 rfl rfl (c72_X6_clipCount l g q20 w21 w22 w23 w24 w26 w27 H.size) (kV_X6_clipCount hE (e297 hE) rfl rfl ⟨(Nat.le_of_ble_eq_true rfl), (Nat.le_of_ble_eq_true rfl)⟩) [0] rfl (by decide) rfl hl.1 rfl (lv_room (Nat.le_of_ble_eq_true rfl)) dX9_count_61 ⟨(Nat.le_of_ble_eq_true rfl), (Nat.le_of_ble_eq_true rfl)⟩) hP hD hS hA [0] [1, 2, 3] rfl rfl (by decide) (by decide) (fun u2 H locs hP hD hS => ?_)
  have hP : va_P g.1 vwCl [(q1, .inr (11, [.ref q13, w3, w4, w5, w6, w7, w8, w9, w10, w11, w12])), (q17, .inl (g.2 3, 10, .inr (.inr (.inr (.inr f18))))), (q13, .inr (10, [.ref q17, .int 0, w16])), (q20, .inr (8, [w21, w22, w23, w24, .int 0, w26, w27]))] H := hP
  have hD : va_D A [(q1, .inr (11, [.ref q13, w3, w4, w5, w6, w7, w8, w9, w10, w11, w12])), (q17, .inl (g.2 3, 10, .inr (.inr (.inr (.inr f18))))), (q13, .inr (10, [.ref q17, .int 0, w16])), (q20, .inr (8, [w21, w22, w23, w24, .int 0, w26, w27]))] := hD
  exact x_zret hx hb hr rfl rfl hlocks hP hD hS hAe hsz (Nat.le_of_ble_eq_true rfl) (Nat.le_of_ble_eq_true rfl) (fun _ => 0) [0, 1, 2, 3] (by decide) rfl dX9_count_64

set_option maxHeartbeats 4000000 in
set_option maxRecDepth 100000 in
theorem c1629_L_count (l : Launch) (g : gG) (hlx : l.stackTraces = false) (q1 q2 q14 q18 q21 : Nat) (w4 w5 w6 w7 w8 w9 w10 w11 w12 w13 w17 w22 w23 w24 w25 w27 w28 : Value) (f19 : Nat → Option Nat) (f29 : Nat → Int64) (hf20 : f19 0 = some q21) (sz : Nat) : Met l yL_count [Cond.codeWith yL_count cL_count 4 (some .int) [(0, 9, 12, 15)]] ({ frames := 3, cells := 0, slots := 0, locals := 64 } : Room) (va_Pc [.ref q1, .int 0, .ref q2] (PZ g sz [(q2, .inl (g.2 1, 1, .inr (.inl f29))), (q21, .inr (8, [w22, w23, w24, w25, .int 0, w27, w28])), (q18, .inl (g.2 3, 10, .inr (.inr (.inr (.inr f19))))), (q14, .inr (10, [.ref q18, .int 0, w17])), (q1, .inr (11, [.ref q14, w4, w5, w6, w7, w8, w9, w10, w11, w12, w13]))])) (QI g [(q2, .inl (g.2 1, 1, .inr (.inl f29))), (q21, .inr (8, [w22, w23, w24, w25, .int 0, w27, w28])), (q18, .inl (g.2 3, 10, .inr (.inr (.inr (.inr f19))))), (q14, .inr (10, [.ref q18, .int 0, w17])), (q1, .inr (11, [.ref q14, w4, w5, w6, w7, w8, w9, w10, w11, w12, w13]))] sz 0 (fun _ => [(q2, .inl (g.2 1, 1, .inr (.inl (vp_updL f29 0 0))))])) 0 0 (va_A [(q2, .inl (g.2 1, 1, .inr (.inl f29))), (q21, .inr (8, [w22, w23, w24, w25, .int 0, w27, w28])), (q18, .inl (g.2 3, 10, .inr (.inr (.inr (.inr f19))))), (q14, .inr (10, [.ref q18, .int 0, w17])), (q1, .inr (11, [.ref q14, w4, w5, w6, w7, w8, w9, w10, w11, w12, w13]))] sz) := by
  refine ofH (by decide) (Nat.le_of_ble_eq_true rfl) rfl ?_
  intro p e s m args below meth c A ls hAe hsz hx hb hml hr hlocks hin hown hE hP hD hA hS hl htb hz
  have hown : s.vm.findClass RL = some m.cls := hown
  refine lv_aload_n hx hb dL_count_0 rfl (lv_at hl 2 rfl) ?_
  refine lv_iconst (v := 0) hx hb dL_count_1 (by decide) ?_
  refine lv_aload_n hx hb dL_count_2 rfl (lv_at hl 0 rfl) ?_
  refine lv_iload_n hx hb dL_count_3 rfl (lv_at hl 1 rfl) ?_
  refine g_i (wr := [(q2, .inl (g.2 1, 1, .inr (.inl f29)))]) (rV (rest := [.int 0, .ref q2]) hx hb hml hown hE hP hD 4 rfl rfl (c1628_X9_count l g q1 q14 q18 q21 w4 w5 w6 w7 w8 w9 w10 w11 w12 w13 w17 w22 w23 w24 w25 w27 w28 f19 (hf20) s.heap.size) (kV_X9_count hE (e852 hE) rfl rfl ⟨(Nat.le_of_ble_eq_true rfl), (Nat.le_of_ble_eq_true rfl)⟩) [1, 2, 3, 4] rfl (by decide) rfl hl.1 rfl (lv_room (Nat.le_of_ble_eq_true rfl)) dL_count_4 ⟨(Nat.le_of_ble_eq_true rfl), (Nat.le_of_ble_eq_true rfl)⟩) hP hD hS hA [1, 2, 3, 4] [0] rfl rfl (by decide) (by decide) (fun u1 H locs hP hD hS => ?_)
  have hP : va_P g.1 vwCl [(q2, .inl (g.2 1, 1, .inr (.inl f29))), (q1, .inr (11, [.ref q14, w4, w5, w6, w7, w8, w9, w10, w11, w12, w13])), (q18, .inl (g.2 3, 10, .inr (.inr (.inr (.inr f19))))), (q14, .inr (10, [.ref q18, .int 0, w17])), (q21, .inr (8, [w22, w23, w24, w25, .int 0, w27, w28]))] H := hP
  have hD : va_D A [(q2, .inl (g.2 1, 1, .inr (.inl f29))), (q1, .inr (11, [.ref q14, w4, w5, w6, w7, w8, w9, w10, w11, w12, w13])), (q18, .inl (g.2 3, 10, .inr (.inr (.inr (.inr f19))))), (q14, .inr (10, [.ref q18, .int 0, w17])), (q21, .inr (8, [w22, w23, w24, w25, .int 0, w27, w28]))] := hD
  refine lv_i2l (v := 0) hx hb dL_count_7 (by decide) ?_
  refine x_last (ws' := [(q2, .inl (g.2 1, 1, .inr (.inl (vp_updL f29 0 0)))), (q1, .inr (11, [.ref q14, w4, w5, w6, w7, w8, w9, w10, w11, w12, w13])), (q18, .inl (g.2 3, 10, .inr (.inr (.inr (.inr f19))))), (q14, .inr (10, [.ref q18, .int 0, w17])), (q21, .inr (8, [w22, w23, w24, w25, .int 0, w27, w28]))]) hx hb hE hP hD hS 0 rfl 0 (x_in (by decide)) (by decide) dL_count_8 rfl (fun H locs hP hD hS => ?_)
  refine lv_goto (tgt := 15) hx hb dL_count_9 (by decide) ?_
  refine lv_iconst (v := 0) hx hb dL_count_15 (by decide) ?_
  exact x_zret hx hb hr rfl rfl hlocks hP hD hS hAe hsz (Nat.le_of_ble_eq_true rfl) (Nat.le_of_ble_eq_true rfl) (fun _ => 0) [0] (by decide) rfl dL_count_16

set_option maxHeartbeats 4000000 in
set_option maxRecDepth 100000 in
theorem c1630_X10_in (l : Launch) (g : gG) (sz : Nat) : Met l yX10_in [Cond.code yX10_in cX10_in 3 (some .boolean)] ({ frames := 0, cells := 0, slots := 0, locals := 0 } : Room) (va_Pc [.int 0, .int 0, .int 8] (PX g sz [])) (QI g [] sz 1 (fun _ => [])) 0 0 (va_A [] sz) := by
  refine ofN (by decide) (Nat.le_of_ble_eq_true rfl) rfl ?_
  intro p e s m args below meth c A ls hAe hsz hx hb hml hr hlocks hin hown hE hP hD hA hS hl
  have hown : s.vm.findClass RX10 = some m.cls := hown
  refine lv_iload_n hx hb dX10_in_0 rfl (lv_at hl 0 rfl) ?_
  refine lv_iload_n hx hb dX10_in_1 rfl (lv_at hl 1 rfl) ?_
  refine lv_icmp_lt (tgt := 14) hx hb dX10_in_2 (by decide) (fun h => absurd h (by decide)) (fun _ => ?_)
  refine lv_iload_n hx hb dX10_in_5 rfl (lv_at hl 0 rfl) ?_
  refine lv_iload_n hx hb dX10_in_6 rfl (lv_at hl 2 rfl) ?_
  refine lv_icmp_gt (tgt := 14) hx hb dX10_in_7 (by decide) (fun h => absurd h (by decide)) (fun _ => ?_)
  refine lv_iconst (v := 1) hx hb dX10_in_10 (by decide) ?_
  refine lv_goto (tgt := 15) hx hb dX10_in_11 (by decide) ?_
  exact x_zret hx hb hr rfl rfl hlocks hP hD hS hAe hsz (Nat.le_of_ble_eq_true rfl) (Nat.le_of_ble_eq_true rfl) (fun _ => 0) [] (by decide) rfl dX10_in_15

set_option maxHeartbeats 4000000 in
set_option maxRecDepth 100000 in
theorem c1631_X10_giveVoices (l : Launch) (g : gG) (q1 q39 : Nat) (w2 w3 w4 w5 w6 w7 w8 w9 w10 w11 w12 w13 w14 w15 w17 w18 w19 w20 w21 w22 w23 w24 w25 w26 w28 w29 w30 w31 w32 w33 w34 w35 w36 w37 w38 : Value) (f40 : Nat → Int32) (sz : Nat) : Met l yX10_giveVoices [Cond.code yX10_giveVoices cX10_giveVoices 3 none] ({ frames := 0, cells := 0, slots := 0, locals := 0 } : Room) (va_Pc [.ref q1] (PX g sz [(q39, .inl (g.2 0, 8, .inl f40)), (q1, .inr (12, [w2, w3, w4, w5, w6, w7, w8, w9, w10, w11, w12, w13, w14, w15, .int 0, w17, w18, w19, w20, w21, w22, w23, w24, w25, w26, .ref q39, w28, w29, w30, w31, w32, w33, w34, w35, w36, w37, w38]))])) (QV g [(q39, .inl (g.2 0, 8, .inl f40)), (q1, .inr (12, [w2, w3, w4, w5, w6, w7, w8, w9, w10, w11, w12, w13, w14, w15, .int 0, w17, w18, w19, w20, w21, w22, w23, w24, w25, w26, .ref q39, w28, w29, w30, w31, w32, w33, w34, w35, w36, w37, w38]))] sz (fun _ => [(q39, .inl (g.2 0, 8, .inl (upd (upd (upd (upd (upd (upd (upd (upd f40 0 (-1)) 1 (-1)) 2 (-1)) 3 (-1)) 4 (-1)) 5 (-1)) 6 (-1)) 7 (-1)))), (q1, .inr (12, [w2, w3, w4, w5, w6, w7, w8, w9, w10, w11, w12, w13, w14, w15, .int 0, w17, w18, w19, w20, w21, w22, w23, w24, w25, w26, .ref q39, w28, w29, w30, w31, w32, w33, w34, w35, w36, w37, w38]))])) 0 0 (va_A [(q39, .inl (g.2 0, 8, .inl f40)), (q1, .inr (12, [w2, w3, w4, w5, w6, w7, w8, w9, w10, w11, w12, w13, w14, w15, .int 0, w17, w18, w19, w20, w21, w22, w23, w24, w25, w26, .ref q39, w28, w29, w30, w31, w32, w33, w34, w35, w36, w37, w38]))] sz) := by
  refine ofN (by decide) (Nat.le_of_ble_eq_true rfl) rfl ?_
  intro p e s m args below meth c A ls hAe hsz hx hb hml hr hlocks hin hown hE hP hD hA hS hl
  have hown : s.vm.findClass RX10 = some m.cls := hown
  refine lv_iconst (v := 0) hx hb dX10_giveVoices_0 (by decide) ?_
  refine lv_istore_n (lv' := [(1, .int 0), (0, .ref q1)]) hx hb dX10_giveVoices_1 rfl hl (by decide) rfl (fun ls hl => ?_)
  refine lv_iload_n hx hb dX10_giveVoices_2 rfl (lv_at hl 0 rfl) ?_
  refine lv_bipush (v := 8) hx hb dX10_giveVoices_3 (by decide) ?_
  refine lv_icmp_ge (tgt := 21) hx hb dX10_giveVoices_5 (by decide) (fun h => absurd h (by decide)) (fun _ => ?_)
  refine lv_aload_n hx hb dX10_giveVoices_8 rfl (lv_at hl 1 rfl) ?_
  refine gf_RX10_64 hx hb hown hE hP 1 rfl rfl dX10_giveVoices_9 ?_
  refine lv_iload_n hx hb dX10_giveVoices_12 rfl (lv_at hl 0 rfl) ?_
  refine lv_iconst (v := (-1)) hx hb dX10_giveVoices_13 (by decide) ?_
  refine x_iast (ws' := [(q39, .inl (g.2 0, 8, .inl (upd f40 0 (-1)))), (q1, .inr (12, [w2, w3, w4, w5, w6, w7, w8, w9, w10, w11, w12, w13, w14, w15, .int 0, w17, w18, w19, w20, w21, w22, w23, w24, w25, w26, .ref q39, w28, w29, w30, w31, w32, w33, w34, w35, w36, w37, w38]))]) hx hb hE hP hD hS 0 rfl 0 (x_in (by decide)) (by decide) dX10_giveVoices_14 rfl (fun H locs hP hD hS => ?_)
  refine lv_iinc (v := 1) (lv' := [(1, .int 1), (0, .ref q1)]) hx hb dX10_giveVoices_15 hl (k := 0) rfl (by decide) (by decide) rfl (fun ls hl => ?_)
  refine lv_goto (tgt := 2) hx hb dX10_giveVoices_18 (by decide) ?_
  refine lv_iload_n hx hb dX10_giveVoices_2 rfl (lv_at hl 0 rfl) ?_
  refine lv_bipush (v := 8) hx hb dX10_giveVoices_3 (by decide) ?_
  refine lv_icmp_ge (tgt := 21) hx hb dX10_giveVoices_5 (by decide) (fun h => absurd h (by decide)) (fun _ => ?_)
  refine lv_aload_n hx hb dX10_giveVoices_8 rfl (lv_at hl 1 rfl) ?_
  refine gf_RX10_64 hx hb hown hE hP 1 rfl rfl dX10_giveVoices_9 ?_
  refine lv_iload_n hx hb dX10_giveVoices_12 rfl (lv_at hl 0 rfl) ?_
  refine lv_iconst (v := (-1)) hx hb dX10_giveVoices_13 (by decide) ?_
  refine x_iast (ws' := [(q39, .inl (g.2 0, 8, .inl (upd (upd f40 0 (-1)) 1 (-1)))), (q1, .inr (12, [w2, w3, w4, w5, w6, w7, w8, w9, w10, w11, w12, w13, w14, w15, .int 0, w17, w18, w19, w20, w21, w22, w23, w24, w25, w26, .ref q39, w28, w29, w30, w31, w32, w33, w34, w35, w36, w37, w38]))]) hx hb hE hP hD hS 0 rfl 1 (x_in (by decide)) (by decide) dX10_giveVoices_14 rfl (fun H locs hP hD hS => ?_)
  refine lv_iinc (v := 2) (lv' := [(1, .int 2), (0, .ref q1)]) hx hb dX10_giveVoices_15 hl (k := 0) rfl (by decide) (by decide) rfl (fun ls hl => ?_)
  refine lv_goto (tgt := 2) hx hb dX10_giveVoices_18 (by decide) ?_
  refine lv_iload_n hx hb dX10_giveVoices_2 rfl (lv_at hl 0 rfl) ?_
  refine lv_bipush (v := 8) hx hb dX10_giveVoices_3 (by decide) ?_
  refine lv_icmp_ge (tgt := 21) hx hb dX10_giveVoices_5 (by decide) (fun h => absurd h (by decide)) (fun _ => ?_)
  refine lv_aload_n hx hb dX10_giveVoices_8 rfl (lv_at hl 1 rfl) ?_
  refine gf_RX10_64 hx hb hown hE hP 1 rfl rfl dX10_giveVoices_9 ?_
  refine lv_iload_n hx hb dX10_giveVoices_12 rfl (lv_at hl 0 rfl) ?_
  refine lv_iconst (v := (-1)) hx hb dX10_giveVoices_13 (by decide) ?_
  refine x_iast (ws' := [(q39, .inl (g.2 0, 8, .inl (upd (upd (upd f40 0 (-1)) 1 (-1)) 2 (-1)))), (q1, .inr (12, [w2, w3, w4, w5, w6, w7, w8, w9, w10, w11, w12, w13, w14, w15, .int 0, w17, w18, w19, w20, w21, w22, w23, w24, w25, w26, .ref q39, w28, w29, w30, w31, w32, w33, w34, w35, w36, w37, w38]))]) hx hb hE hP hD hS 0 rfl 2 (x_in (by decide)) (by decide) dX10_giveVoices_14 rfl (fun H locs hP hD hS => ?_)
  refine lv_iinc (v := 3) (lv' := [(1, .int 3), (0, .ref q1)]) hx hb dX10_giveVoices_15 hl (k := 0) rfl (by decide) (by decide) rfl (fun ls hl => ?_)
  refine lv_goto (tgt := 2) hx hb dX10_giveVoices_18 (by decide) ?_
  refine lv_iload_n hx hb dX10_giveVoices_2 rfl (lv_at hl 0 rfl) ?_
  refine lv_bipush (v := 8) hx hb dX10_giveVoices_3 (by decide) ?_
  refine lv_icmp_ge (tgt := 21) hx hb dX10_giveVoices_5 (by decide) (fun h => absurd h (by decide)) (fun _ => ?_)
  refine lv_aload_n hx hb dX10_giveVoices_8 rfl (lv_at hl 1 rfl) ?_
  refine gf_RX10_64 hx hb hown hE hP 1 rfl rfl dX10_giveVoices_9 ?_
  refine lv_iload_n hx hb dX10_giveVoices_12 rfl (lv_at hl 0 rfl) ?_
  refine lv_iconst (v := (-1)) hx hb dX10_giveVoices_13 (by decide) ?_
  refine x_iast (ws' := [(q39, .inl (g.2 0, 8, .inl (upd (upd (upd (upd f40 0 (-1)) 1 (-1)) 2 (-1)) 3 (-1)))), (q1, .inr (12, [w2, w3, w4, w5, w6, w7, w8, w9, w10, w11, w12, w13, w14, w15, .int 0, w17, w18, w19, w20, w21, w22, w23, w24, w25, w26, .ref q39, w28, w29, w30, w31, w32, w33, w34, w35, w36, w37, w38]))]) hx hb hE hP hD hS 0 rfl 3 (x_in (by decide)) (by decide) dX10_giveVoices_14 rfl (fun H locs hP hD hS => ?_)
  refine lv_iinc (v := 4) (lv' := [(1, .int 4), (0, .ref q1)]) hx hb dX10_giveVoices_15 hl (k := 0) rfl (by decide) (by decide) rfl (fun ls hl => ?_)
  refine lv_goto (tgt := 2) hx hb dX10_giveVoices_18 (by decide) ?_
  refine lv_iload_n hx hb dX10_giveVoices_2 rfl (lv_at hl 0 rfl) ?_
  refine lv_bipush (v := 8) hx hb dX10_giveVoices_3 (by decide) ?_
  refine lv_icmp_ge (tgt := 21) hx hb dX10_giveVoices_5 (by decide) (fun h => absurd h (by decide)) (fun _ => ?_)
  refine lv_aload_n hx hb dX10_giveVoices_8 rfl (lv_at hl 1 rfl) ?_
  refine gf_RX10_64 hx hb hown hE hP 1 rfl rfl dX10_giveVoices_9 ?_
  refine lv_iload_n hx hb dX10_giveVoices_12 rfl (lv_at hl 0 rfl) ?_
  refine lv_iconst (v := (-1)) hx hb dX10_giveVoices_13 (by decide) ?_
  refine x_iast (ws' := [(q39, .inl (g.2 0, 8, .inl (upd (upd (upd (upd (upd f40 0 (-1)) 1 (-1)) 2 (-1)) 3 (-1)) 4 (-1)))), (q1, .inr (12, [w2, w3, w4, w5, w6, w7, w8, w9, w10, w11, w12, w13, w14, w15, .int 0, w17, w18, w19, w20, w21, w22, w23, w24, w25, w26, .ref q39, w28, w29, w30, w31, w32, w33, w34, w35, w36, w37, w38]))]) hx hb hE hP hD hS 0 rfl 4 (x_in (by decide)) (by decide) dX10_giveVoices_14 rfl (fun H locs hP hD hS => ?_)
  refine lv_iinc (v := 5) (lv' := [(1, .int 5), (0, .ref q1)]) hx hb dX10_giveVoices_15 hl (k := 0) rfl (by decide) (by decide) rfl (fun ls hl => ?_)
  refine lv_goto (tgt := 2) hx hb dX10_giveVoices_18 (by decide) ?_
  refine lv_iload_n hx hb dX10_giveVoices_2 rfl (lv_at hl 0 rfl) ?_
  refine lv_bipush (v := 8) hx hb dX10_giveVoices_3 (by decide) ?_
  refine lv_icmp_ge (tgt := 21) hx hb dX10_giveVoices_5 (by decide) (fun h => absurd h (by decide)) (fun _ => ?_)
  refine lv_aload_n hx hb dX10_giveVoices_8 rfl (lv_at hl 1 rfl) ?_
  refine gf_RX10_64 hx hb hown hE hP 1 rfl rfl dX10_giveVoices_9 ?_
  refine lv_iload_n hx hb dX10_giveVoices_12 rfl (lv_at hl 0 rfl) ?_
  refine lv_iconst (v := (-1)) hx hb dX10_giveVoices_13 (by decide) ?_
  refine x_iast (ws' := [(q39, .inl (g.2 0, 8, .inl (upd (upd (upd (upd (upd (upd f40 0 (-1)) 1 (-1)) 2 (-1)) 3 (-1)) 4 (-1)) 5 (-1)))), (q1, .inr (12, [w2, w3, w4, w5, w6, w7, w8, w9, w10, w11, w12, w13, w14, w15, .int 0, w17, w18, w19, w20, w21, w22, w23, w24, w25, w26, .ref q39, w28, w29, w30, w31, w32, w33, w34, w35, w36, w37, w38]))]) hx hb hE hP hD hS 0 rfl 5 (x_in (by decide)) (by decide) dX10_giveVoices_14 rfl (fun H locs hP hD hS => ?_)
  refine lv_iinc (v := 6) (lv' := [(1, .int 6), (0, .ref q1)]) hx hb dX10_giveVoices_15 hl (k := 0) rfl (by decide) (by decide) rfl (fun ls hl => ?_)
  refine lv_goto (tgt := 2) hx hb dX10_giveVoices_18 (by decide) ?_
  refine lv_iload_n hx hb dX10_giveVoices_2 rfl (lv_at hl 0 rfl) ?_
  refine lv_bipush (v := 8) hx hb dX10_giveVoices_3 (by decide) ?_
  refine lv_icmp_ge (tgt := 21) hx hb dX10_giveVoices_5 (by decide) (fun h => absurd h (by decide)) (fun _ => ?_)
  refine lv_aload_n hx hb dX10_giveVoices_8 rfl (lv_at hl 1 rfl) ?_
  refine gf_RX10_64 hx hb hown hE hP 1 rfl rfl dX10_giveVoices_9 ?_
  refine lv_iload_n hx hb dX10_giveVoices_12 rfl (lv_at hl 0 rfl) ?_
  refine lv_iconst (v := (-1)) hx hb dX10_giveVoices_13 (by decide) ?_
  refine x_iast (ws' := [(q39, .inl (g.2 0, 8, .inl (upd (upd (upd (upd (upd (upd (upd f40 0 (-1)) 1 (-1)) 2 (-1)) 3 (-1)) 4 (-1)) 5 (-1)) 6 (-1)))), (q1, .inr (12, [w2, w3, w4, w5, w6, w7, w8, w9, w10, w11, w12, w13, w14, w15, .int 0, w17, w18, w19, w20, w21, w22, w23, w24, w25, w26, .ref q39, w28, w29, w30, w31, w32, w33, w34, w35, w36, w37, w38]))]) hx hb hE hP hD hS 0 rfl 6 (x_in (by decide)) (by decide) dX10_giveVoices_14 rfl (fun H locs hP hD hS => ?_)
  refine lv_iinc (v := 7) (lv' := [(1, .int 7), (0, .ref q1)]) hx hb dX10_giveVoices_15 hl (k := 0) rfl (by decide) (by decide) rfl (fun ls hl => ?_)
  refine lv_goto (tgt := 2) hx hb dX10_giveVoices_18 (by decide) ?_
  refine lv_iload_n hx hb dX10_giveVoices_2 rfl (lv_at hl 0 rfl) ?_
  refine lv_bipush (v := 8) hx hb dX10_giveVoices_3 (by decide) ?_
  refine lv_icmp_ge (tgt := 21) hx hb dX10_giveVoices_5 (by decide) (fun h => absurd h (by decide)) (fun _ => ?_)
  refine lv_aload_n hx hb dX10_giveVoices_8 rfl (lv_at hl 1 rfl) ?_
  refine gf_RX10_64 hx hb hown hE hP 1 rfl rfl dX10_giveVoices_9 ?_
  refine lv_iload_n hx hb dX10_giveVoices_12 rfl (lv_at hl 0 rfl) ?_
  refine lv_iconst (v := (-1)) hx hb dX10_giveVoices_13 (by decide) ?_
  refine x_iast (ws' := [(q39, .inl (g.2 0, 8, .inl (upd (upd (upd (upd (upd (upd (upd (upd f40 0 (-1)) 1 (-1)) 2 (-1)) 3 (-1)) 4 (-1)) 5 (-1)) 6 (-1)) 7 (-1)))), (q1, .inr (12, [w2, w3, w4, w5, w6, w7, w8, w9, w10, w11, w12, w13, w14, w15, .int 0, w17, w18, w19, w20, w21, w22, w23, w24, w25, w26, .ref q39, w28, w29, w30, w31, w32, w33, w34, w35, w36, w37, w38]))]) hx hb hE hP hD hS 0 rfl 7 (x_in (by decide)) (by decide) dX10_giveVoices_14 rfl (fun H locs hP hD hS => ?_)
  refine lv_iinc (v := 8) (lv' := [(1, .int 8), (0, .ref q1)]) hx hb dX10_giveVoices_15 hl (k := 0) rfl (by decide) (by decide) rfl (fun ls hl => ?_)
  refine lv_goto (tgt := 2) hx hb dX10_giveVoices_18 (by decide) ?_
  refine lv_iload_n hx hb dX10_giveVoices_2 rfl (lv_at hl 0 rfl) ?_
  refine lv_bipush (v := 8) hx hb dX10_giveVoices_3 (by decide) ?_
  refine lv_icmp_ge (tgt := 21) hx hb dX10_giveVoices_5 (by decide) (fun _ => ?_) (fun h => absurd (by decide) h)
  refine lv_iconst (v := 0) hx hb dX10_giveVoices_21 (by decide) ?_
  refine lv_istore_n (lv' := [(1, .int 0), (0, .ref q1)]) hx hb dX10_giveVoices_22 rfl hl (by decide) rfl (fun ls hl => ?_)
  refine lv_iload_n hx hb dX10_giveVoices_23 rfl (lv_at hl 0 rfl) ?_
  refine lv_aload_n hx hb dX10_giveVoices_24 rfl (lv_at hl 1 rfl) ?_
  refine gf_RX10_176 hx hb hown hE hP 1 rfl rfl dX10_giveVoices_25 ?_
  refine lv_icmp_ge (tgt := 59) hx hb dX10_giveVoices_28 (by decide) (fun _ => ?_) (fun h => absurd (by decide) h)
  refine lv_iconst (v := 0) hx hb dX10_giveVoices_59 (by decide) ?_
  refine lv_istore_n (lv' := [(1, .int 0), (0, .ref q1)]) hx hb dX10_giveVoices_60 rfl hl (by decide) rfl (fun ls hl => ?_)
  refine lv_iload_n hx hb dX10_giveVoices_61 rfl (lv_at hl 0 rfl) ?_
  refine lv_aload_n hx hb dX10_giveVoices_62 rfl (lv_at hl 1 rfl) ?_
  refine gf_RX10_176 hx hb hown hE hP 1 rfl rfl dX10_giveVoices_63 ?_
  refine lv_icmp_ge (tgt := 91) hx hb dX10_giveVoices_66 (by decide) (fun _ => ?_) (fun h => absurd (by decide) h)
  exact x_vret hx hb hr hlocks hP hD hS hAe hsz (Nat.le_of_ble_eq_true rfl) (Nat.le_of_ble_eq_true rfl) (fun _ => 0) [0, 1] (by decide) rfl dX10_giveVoices_91

set_option maxHeartbeats 4000000 in
set_option maxRecDepth 100000 in
theorem c1632_X10_layNotes (l : Launch) (g : gG) (q1 q39 q40 q41 q61 : Nat) (w3 w4 w5 w6 w7 w8 w11 w12 w13 w14 w15 w16 w17 w18 w19 w20 w21 w22 w23 w24 w25 w26 w28 w29 w30 w31 w32 w33 w34 w35 w36 w37 w38 : Value) (f42 : Nat → Int32) (f51 : Nat → Int32) (hf43 : f42 0 = 0) (hf44 : f42 49 = 0) (hf45 : f42 98 = 0) (hf46 : f42 147 = 0) (hf47 : f42 196 = 0) (hf48 : f42 245 = 0) (hf49 : f42 294 = 0) (hf50 : f42 343 = 0) (hf52 : f51 0 = 0) (hf53 : f51 1 = 0) (hf54 : f51 2 = 0) (hf55 : f51 3 = 0) (hf56 : f51 4 = 0) (hf57 : f51 5 = 0) (hf58 : f51 6 = 0) (hf59 : f51 7 = 0) (hf60 : f42 392 = 0) (sz : Nat) : Met l yX10_layNotes [Cond.code yX10_layNotes cX10_layNotes 4 none] ({ frames := 3, cells := 0, slots := 0, locals := 66 } : Room) (va_Pc [.ref q1] (PX g sz [(q61, .inl (g.2 0, 8, .inl f51)), (q41, .inl (g.2 0, 8, .inl f51)), (q40, .inl (g.2 0, 8, .inl f51)), (q39, .inl (g.2 0, 497, .inl f42)), (q1, .inr (12, [.ref q39, w3, w4, w5, w6, w7, w8, .ref q40, .ref q41, w11, w12, w13, w14, w15, w16, w17, w18, w19, w20, w21, w22, w23, w24, w25, w26, .ref q61, w28, w29, w30, w31, w32, w33, w34, w35, w36, w37, w38]))])) (QV g [(q61, .inl (g.2 0, 8, .inl f51)), (q41, .inl (g.2 0, 8, .inl f51)), (q40, .inl (g.2 0, 8, .inl f51)), (q39, .inl (g.2 0, 497, .inl f42)), (q1, .inr (12, [.ref q39, w3, w4, w5, w6, w7, w8, .ref q40, .ref q41, w11, w12, w13, w14, w15, w16, w17, w18, w19, w20, w21, w22, w23, w24, w25, w26, .ref q61, w28, w29, w30, w31, w32, w33, w34, w35, w36, w37, w38]))] sz (fun _ => [(q41, .inl (g.2 0, 8, .inl f51)), (q40, .inl (g.2 0, 8, .inl f51)), (q39, .inl (g.2 0, 497, .inl f42)), (q61, .inl (g.2 0, 8, .inl (upd (upd (upd (upd (upd (upd (upd (upd f51 0 (-1)) 1 (-1)) 2 (-1)) 3 (-1)) 4 (-1)) 5 (-1)) 6 (-1)) 7 (-1)))), (q1, .inr (12, [.ref q39, w3, w4, w5, w6, w7, w8, .ref q40, .ref q41, w11, w12, w13, w14, w15, .int 0, w17, w18, w19, w20, w21, w22, w23, w24, w25, w26, .ref q61, w28, w29, w30, w31, w32, w33, w34, w35, w36, w37, w38]))])) 0 0 (va_A [(q61, .inl (g.2 0, 8, .inl f51)), (q41, .inl (g.2 0, 8, .inl f51)), (q40, .inl (g.2 0, 8, .inl f51)), (q39, .inl (g.2 0, 497, .inl f42)), (q1, .inr (12, [.ref q39, w3, w4, w5, w6, w7, w8, .ref q40, .ref q41, w11, w12, w13, w14, w15, w16, w17, w18, w19, w20, w21, w22, w23, w24, w25, w26, .ref q61, w28, w29, w30, w31, w32, w33, w34, w35, w36, w37, w38]))] sz) := by
  refine ofN (by decide) (Nat.le_of_ble_eq_true rfl) rfl ?_
  intro p e s m args below meth c A ls hAe hsz hx hb hml hr hlocks hin hown hE hP hD hA hS hl
  have hown : s.vm.findClass RX10 = some m.cls := hown
  refine lv_aload_n hx hb dX10_layNotes_0 rfl (lv_at hl 0 rfl) ?_
  refine g_v (wr := [(q61, .inl (g.2 0, 8, .inl f51))]) (rV (rest := []) hx hb hml hown hE hP hD 4 rfl rfl (c1241_X10_layLengths l g q1 q39 q40 q41 w3 w4 w5 w6 w7 w8 w11 w12 w13 w14 w15 w16 w17 w18 w19 w20 w21 w22 w23 w24 w25 w26 (.ref q61) w28 w29 w30 w31 w32 w33 w34 w35 w36 w37 w38 f42 f51 (hf43) (hf52) (hf44) (hf53) (hf45) (hf54) (hf46) (hf55) (hf47) (hf56) (hf48) (hf57) (hf49) (hf58) (hf50) (hf59) s.heap.size) (kV_X10_layLengths hE (e1452 hE) rfl rfl ⟨(Nat.le_of_ble_eq_true rfl), (Nat.le_of_ble_eq_true rfl)⟩) [1, 2, 3, 4] rfl (by decide) rfl hl.1 rfl (lv_room (Nat.le_of_ble_eq_true rfl)) dX10_layNotes_1 ⟨(Nat.le_of_ble_eq_true rfl), (Nat.le_of_ble_eq_true rfl)⟩) hP hD hS hA [1, 2, 3, 4] [0] rfl rfl (by decide) (by decide) (fun u1 H locs hP hD hS => ?_)
  have hP : va_P g.1 vwCl [(q61, .inl (g.2 0, 8, .inl f51)), (q41, .inl (g.2 0, 8, .inl f51)), (q40, .inl (g.2 0, 8, .inl f51)), (q39, .inl (g.2 0, 497, .inl f42)), (q1, .inr (12, [.ref q39, w3, w4, w5, w6, w7, w8, .ref q40, .ref q41, w11, w12, w13, w14, w15, w16, w17, w18, w19, w20, w21, w22, w23, w24, w25, w26, .ref q61, w28, w29, w30, w31, w32, w33, w34, w35, w36, w37, w38]))] H := hP
  have hD : va_D A [(q61, .inl (g.2 0, 8, .inl f51)), (q41, .inl (g.2 0, 8, .inl f51)), (q40, .inl (g.2 0, 8, .inl f51)), (q39, .inl (g.2 0, 497, .inl f42)), (q1, .inr (12, [.ref q39, w3, w4, w5, w6, w7, w8, .ref q40, .ref q41, w11, w12, w13, w14, w15, w16, w17, w18, w19, w20, w21, w22, w23, w24, w25, w26, .ref q61, w28, w29, w30, w31, w32, w33, w34, w35, w36, w37, w38]))] := hD
  refine lv_aload_n hx hb dX10_layNotes_4 rfl (lv_at hl 0 rfl) ?_
  refine lv_iconst (v := 0) hx hb dX10_layNotes_5 (by decide) ?_
  refine pf_RX10_176 (ws' := [(q61, .inl (g.2 0, 8, .inl f51)), (q41, .inl (g.2 0, 8, .inl f51)), (q40, .inl (g.2 0, 8, .inl f51)), (q39, .inl (g.2 0, 497, .inl f42)), (q1, .inr (12, [.ref q39, w3, w4, w5, w6, w7, w8, .ref q40, .ref q41, w11, w12, w13, w14, w15, .int 0, w17, w18, w19, w20, w21, w22, w23, w24, w25, w26, .ref q61, w28, w29, w30, w31, w32, w33, w34, w35, w36, w37, w38]))]) hx hb hown hE hP hD hS 4 rfl rfl rfl (Nat.le_of_ble_eq_true rfl) dX10_layNotes_6 rfl (fun H locs hP hD hS => ?_)
  refine lv_iconst (v := 0) hx hb dX10_layNotes_9 (by decide) ?_
  refine lv_istore_n (lv' := [(1, .int 0), (0, .ref q1)]) hx hb dX10_layNotes_10 rfl hl (by decide) rfl (fun ls hl => ?_)
  refine lv_iload_n hx hb dX10_layNotes_11 rfl (lv_at hl 0 rfl) ?_
  refine lv_aload_n hx hb dX10_layNotes_12 rfl (lv_at hl 1 rfl) ?_
  refine gf_RX10_9 hx hb hown hE hP 4 rfl rfl dX10_layNotes_13 ?_
  refine lv_sipush (v := 392) hx hb dX10_layNotes_16 (by decide) ?_
  refine x_iald (v := 0) hx hb hE hP 3 rfl 392 (x_in (by decide)) (by decide) hf60 dX10_layNotes_19 ?_
  refine lv_icmp_ge (tgt := 106) hx hb dX10_layNotes_20 (by decide) (fun _ => ?_) (fun h => absurd (by decide) h)
  refine lv_iconst (v := 0) hx hb dX10_layNotes_106 (by decide) ?_
  refine lv_istore_n (lv' := [(1, .int 0), (0, .ref q1)]) hx hb dX10_layNotes_107 rfl hl (by decide) rfl (fun ls hl => ?_)
  refine lv_iload_n hx hb dX10_layNotes_108 rfl (lv_at hl 0 rfl) ?_
  refine lv_aload_n hx hb dX10_layNotes_109 rfl (lv_at hl 1 rfl) ?_
  refine gf_RX10_176 hx hb hown hE hP 4 rfl rfl dX10_layNotes_110 ?_
  refine lv_icmp_ge (tgt := 156) hx hb dX10_layNotes_113 (by decide) (fun _ => ?_) (fun h => absurd (by decide) h)
  refine lv_aload_n hx hb dX10_layNotes_156 rfl (lv_at hl 1 rfl) ?_
  refine g_v (wr := [(q41, .inl (g.2 0, 8, .inl f51)), (q40, .inl (g.2 0, 8, .inl f51)), (q39, .inl (g.2 0, 497, .inl f42))]) (rV (rest := []) hx hb hml hown hE hP hD 4 rfl rfl (c1631_X10_giveVoices l g q1 q61 (.ref q39) w3 w4 w5 w6 w7 w8 (.ref q40) (.ref q41) w11 w12 w13 w14 w15 w17 w18 w19 w20 w21 w22 w23 w24 w25 w26 w28 w29 w30 w31 w32 w33 w34 w35 w36 w37 w38 f51 H.size) (kV_X10_giveVoices hE (e1559 hE) rfl rfl ⟨(Nat.le_of_ble_eq_true rfl), (Nat.le_of_ble_eq_true rfl)⟩) [0, 4] rfl (by decide) rfl hl.1 rfl (lv_room (Nat.le_of_ble_eq_true rfl)) dX10_layNotes_157 ⟨(Nat.le_of_ble_eq_true rfl), (Nat.le_of_ble_eq_true rfl)⟩) hP hD hS hA [0, 4] [1, 2, 3] rfl rfl (by decide) (by decide) (fun u2 H locs hP hD hS => ?_)
  have hP : va_P g.1 vwCl [(q41, .inl (g.2 0, 8, .inl f51)), (q40, .inl (g.2 0, 8, .inl f51)), (q39, .inl (g.2 0, 497, .inl f42)), (q61, .inl (g.2 0, 8, .inl (upd (upd (upd (upd (upd (upd (upd (upd f51 0 (-1)) 1 (-1)) 2 (-1)) 3 (-1)) 4 (-1)) 5 (-1)) 6 (-1)) 7 (-1)))), (q1, .inr (12, [.ref q39, w3, w4, w5, w6, w7, w8, .ref q40, .ref q41, w11, w12, w13, w14, w15, .int 0, w17, w18, w19, w20, w21, w22, w23, w24, w25, w26, .ref q61, w28, w29, w30, w31, w32, w33, w34, w35, w36, w37, w38]))] H := hP
  have hD : va_D A [(q41, .inl (g.2 0, 8, .inl f51)), (q40, .inl (g.2 0, 8, .inl f51)), (q39, .inl (g.2 0, 497, .inl f42)), (q61, .inl (g.2 0, 8, .inl (upd (upd (upd (upd (upd (upd (upd (upd f51 0 (-1)) 1 (-1)) 2 (-1)) 3 (-1)) 4 (-1)) 5 (-1)) 6 (-1)) 7 (-1)))), (q1, .inr (12, [.ref q39, w3, w4, w5, w6, w7, w8, .ref q40, .ref q41, w11, w12, w13, w14, w15, .int 0, w17, w18, w19, w20, w21, w22, w23, w24, w25, w26, .ref q61, w28, w29, w30, w31, w32, w33, w34, w35, w36, w37, w38]))] := hD
  exact x_vret hx hb hr hlocks hP hD hS hAe hsz (Nat.le_of_ble_eq_true rfl) (Nat.le_of_ble_eq_true rfl) (fun _ => 0) [0, 1, 2, 3, 4] (by decide) rfl dX10_layNotes_160

set_option maxHeartbeats 4000000 in
set_option maxRecDepth 100000 in
theorem c1633_X10_count (l : Launch) (g : gG) (q1 q39 q40 q41 q61 : Nat) (w3 w4 w5 w6 w7 w8 w11 w12 w13 w14 w15 w16 w17 w18 w19 w20 w21 w22 w23 w24 w25 w26 w28 w29 w30 w31 w32 w33 w34 w35 w36 w37 w38 : Value) (f42 : Nat → Int32) (f51 : Nat → Int32) (hf43 : f42 0 = 0) (hf44 : f42 49 = 0) (hf45 : f42 98 = 0) (hf46 : f42 147 = 0) (hf47 : f42 196 = 0) (hf48 : f42 245 = 0) (hf49 : f42 294 = 0) (hf50 : f42 343 = 0) (hf52 : f51 0 = 0) (hf53 : f51 1 = 0) (hf54 : f51 2 = 0) (hf55 : f51 3 = 0) (hf56 : f51 4 = 0) (hf57 : f51 5 = 0) (hf58 : f51 6 = 0) (hf59 : f51 7 = 0) (hf60 : f42 392 = 0) (sz : Nat) : Met l yX10_count [Cond.code yX10_count cX10_count 6 (some .int)] ({ frames := 4, cells := 0, slots := 0, locals := 89 } : Room) (va_Pc [.ref q1, .int 0] (PX g sz [(q61, .inl (g.2 0, 8, .inl f51)), (q41, .inl (g.2 0, 8, .inl f51)), (q40, .inl (g.2 0, 8, .inl f51)), (q39, .inl (g.2 0, 497, .inl f42)), (q1, .inr (12, [.ref q39, w3, w4, w5, w6, w7, w8, .ref q40, .ref q41, w11, w12, w13, w14, w15, w16, w17, w18, w19, w20, w21, w22, w23, w24, w25, w26, .ref q61, w28, w29, w30, w31, w32, w33, w34, w35, w36, w37, w38]))])) (QI g [(q61, .inl (g.2 0, 8, .inl f51)), (q41, .inl (g.2 0, 8, .inl f51)), (q40, .inl (g.2 0, 8, .inl f51)), (q39, .inl (g.2 0, 497, .inl f42)), (q1, .inr (12, [.ref q39, w3, w4, w5, w6, w7, w8, .ref q40, .ref q41, w11, w12, w13, w14, w15, w16, w17, w18, w19, w20, w21, w22, w23, w24, w25, w26, .ref q61, w28, w29, w30, w31, w32, w33, w34, w35, w36, w37, w38]))] sz 0 (fun _ => [(q1, .inr (12, [.ref q39, w3, w4, w5, w6, w7, .int 0, .ref q40, .ref q41, w11, w12, w13, w14, w15, .int 0, w17, w18, w19, w20, w21, w22, w23, w24, w25, w26, .ref q61, w28, w29, w30, w31, w32, w33, w34, w35, w36, w37, w38]))])) 0 0 (va_A [(q61, .inl (g.2 0, 8, .inl f51)), (q41, .inl (g.2 0, 8, .inl f51)), (q40, .inl (g.2 0, 8, .inl f51)), (q39, .inl (g.2 0, 497, .inl f42)), (q1, .inr (12, [.ref q39, w3, w4, w5, w6, w7, w8, .ref q40, .ref q41, w11, w12, w13, w14, w15, w16, w17, w18, w19, w20, w21, w22, w23, w24, w25, w26, .ref q61, w28, w29, w30, w31, w32, w33, w34, w35, w36, w37, w38]))] sz) := by
  refine ofN (by decide) (Nat.le_of_ble_eq_true rfl) rfl ?_
  intro p e s m args below meth c A ls hAe hsz hx hb hml hr hlocks hin hown hE hP hD hA hS hl
  have hown : s.vm.findClass RX10 = some m.cls := hown
  refine lv_aload_n hx hb dX10_count_0 rfl (lv_at hl 0 rfl) ?_
  refine lv_iconst (v := 0) hx hb dX10_count_1 (by decide) ?_
  refine pf_RX10_86 (ws' := [(q61, .inl (g.2 0, 8, .inl f51)), (q41, .inl (g.2 0, 8, .inl f51)), (q40, .inl (g.2 0, 8, .inl f51)), (q39, .inl (g.2 0, 497, .inl f42)), (q1, .inr (12, [.ref q39, w3, w4, w5, w6, w7, .int 0, .ref q40, .ref q41, w11, w12, w13, w14, w15, w16, w17, w18, w19, w20, w21, w22, w23, w24, w25, w26, .ref q61, w28, w29, w30, w31, w32, w33, w34, w35, w36, w37, w38]))]) hx hb hown hE hP hD hS 4 rfl rfl rfl (Nat.le_of_ble_eq_true rfl) dX10_count_2 rfl (fun H locs hP hD hS => ?_)
  refine lv_iload_n hx hb dX10_count_5 rfl (lv_at hl 1 rfl) ?_
  refine lv_iconst (v := 0) hx hb dX10_count_6 (by decide) ?_
  refine lv_bipush (v := 8) hx hb dX10_count_7 (by decide) ?_
  refine g0_i (rS (rest := []) hx hb hml hown hE hP hD (c1630_X10_in l g H.size) (kS_X10_in hE (e1431 hE) rfl rfl ⟨(Nat.le_of_ble_eq_true rfl), (Nat.le_of_ble_eq_true rfl)⟩) [] rfl (by decide) rfl hl.1 rfl (lv_room (Nat.le_of_ble_eq_true rfl)) dX10_count_9 ⟨(Nat.le_of_ble_eq_true rfl), (Nat.le_of_ble_eq_true rfl)⟩) hP hD hS hA (fun u9 H locs hP hS => ?_)
  refine lv_if_ne (tgt := 21) hx hb dX10_count_12 (by decide) (fun _ => ?_) (fun h => absurd h (by decide))
  refine lv_aload_n hx hb dX10_count_21 rfl (lv_at hl 0 rfl) ?_
  refine g_v (wr := []) (rV (rest := []) hx hb hml hown hE hP hD 4 rfl rfl (c1632_X10_layNotes l g q1 q39 q40 q41 q61 w3 w4 w5 w6 w7 (.int 0) w11 w12 w13 w14 w15 w16 w17 w18 w19 w20 w21 w22 w23 w24 w25 w26 w28 w29 w30 w31 w32 w33 w34 w35 w36 w37 w38 f42 f51 (hf43) (hf44) (hf45) (hf46) (hf47) (hf48) (hf49) (hf50) (hf52) (hf53) (hf54) (hf55) (hf56) (hf57) (hf58) (hf59) (hf60) H.size) (kV_X10_layNotes hE (e1543 hE) rfl rfl ⟨(Nat.le_of_ble_eq_true rfl), (Nat.le_of_ble_eq_true rfl)⟩) [0, 1, 2, 3, 4] rfl (by decide) rfl hl.1 rfl (lv_room (Nat.le_of_ble_eq_true rfl)) dX10_count_22 ⟨(Nat.le_of_ble_eq_true rfl), (Nat.le_of_ble_eq_true rfl)⟩) hP hD hS hA [0, 1, 2, 3, 4] [] rfl rfl (by decide) (by decide) (fun u2 H locs hP hD hS => ?_)
  have hP : va_P g.1 vwCl [(q41, .inl (g.2 0, 8, .inl f51)), (q40, .inl (g.2 0, 8, .inl f51)), (q39, .inl (g.2 0, 497, .inl f42)), (q61, .inl (g.2 0, 8, .inl (upd (upd (upd (upd (upd (upd (upd (upd f51 0 (-1)) 1 (-1)) 2 (-1)) 3 (-1)) 4 (-1)) 5 (-1)) 6 (-1)) 7 (-1)))), (q1, .inr (12, [.ref q39, w3, w4, w5, w6, w7, .int 0, .ref q40, .ref q41, w11, w12, w13, w14, w15, .int 0, w17, w18, w19, w20, w21, w22, w23, w24, w25, w26, .ref q61, w28, w29, w30, w31, w32, w33, w34, w35, w36, w37, w38]))] H := hP
  have hD : va_D A [(q41, .inl (g.2 0, 8, .inl f51)), (q40, .inl (g.2 0, 8, .inl f51)), (q39, .inl (g.2 0, 497, .inl f42)), (q61, .inl (g.2 0, 8, .inl (upd (upd (upd (upd (upd (upd (upd (upd f51 0 (-1)) 1 (-1)) 2 (-1)) 3 (-1)) 4 (-1)) 5 (-1)) 6 (-1)) 7 (-1)))), (q1, .inr (12, [.ref q39, w3, w4, w5, w6, w7, .int 0, .ref q40, .ref q41, w11, w12, w13, w14, w15, .int 0, w17, w18, w19, w20, w21, w22, w23, w24, w25, w26, .ref q61, w28, w29, w30, w31, w32, w33, w34, w35, w36, w37, w38]))] := hD
  refine lv_iconst (v := 0) hx hb dX10_count_25 (by decide) ?_
  refine lv_istore_n (lv' := [(2, .int 0), (0, .ref q1), (1, .int 0)]) hx hb dX10_count_26 rfl hl (by decide) rfl (fun ls hl => ?_)
  refine lv_iconst (v := 0) hx hb dX10_count_27 (by decide) ?_
  refine lv_istore_n (lv' := [(3, .int 0), (2, .int 0), (0, .ref q1), (1, .int 0)]) hx hb dX10_count_28 rfl hl (by decide) rfl (fun ls hl => ?_)
  refine lv_iconst (v := 0) hx hb dX10_count_29 (by decide) ?_
  refine lv_istore (lv' := [(4, .int 0), (3, .int 0), (2, .int 0), (0, .ref q1), (1, .int 0)]) hx hb dX10_count_30 hl (by decide) rfl (fun ls hl => ?_)
  refine lv_iconst (v := 0) hx hb dX10_count_32 (by decide) ?_
  refine lv_istore (lv' := [(5, .int 0), (4, .int 0), (3, .int 0), (2, .int 0), (0, .ref q1), (1, .int 0)]) hx hb dX10_count_33 hl (by decide) rfl (fun ls hl => ?_)
  refine lv_iload hx hb dX10_count_35 (lv_at hl 0 rfl) ?_
  refine lv_aload_n hx hb dX10_count_37 rfl (lv_at hl 4 rfl) ?_
  refine gf_RX10_176 hx hb hown hE hP 4 rfl rfl dX10_count_38 ?_
  refine lv_icmp_ge (tgt := 100) hx hb dX10_count_41 (by decide) (fun _ => ?_) (fun h => absurd (by decide) h)
  refine lv_iload_n hx hb dX10_count_100 rfl (lv_at hl 5 rfl) ?_
  refine lv_tableIn (tgt := 148) hx hb dX10_count_101 (by decide) (by decide) rfl (by decide) ?_
  refine lv_aload_n hx hb dX10_count_148 rfl (lv_at hl 4 rfl) ?_
  refine gf_RX10_9 hx hb hown hE hP 4 rfl rfl dX10_count_149 ?_
  refine lv_sipush (v := 392) hx hb dX10_count_152 (by decide) ?_
  refine x_iald (v := 0) hx hb hE hP 2 rfl 392 (x_in (by decide)) (by decide) hf60 dX10_count_155 ?_
  exact x_zret hx hb hr rfl rfl hlocks hP hD hS hAe hsz (Nat.le_of_ble_eq_true rfl) (Nat.le_of_ble_eq_true rfl) (fun _ => 0) [4] (by decide) rfl dX10_count_156

set_option maxHeartbeats 4000000 in
set_option maxRecDepth 100000 in
theorem c1634_X5_collectNotes (l : Launch) (g : gG) (q1 q2 : Nat) (w3 w4 w5 w6 w7 w8 w9 w10 w11 w12 w13 w14 w15 w16 w18 w19 : Value) (sz : Nat) : Met l yX5_collectNotes [Cond.code yX5_collectNotes cX5_collectNotes 3 none] ({ frames := 1, cells := 0, slots := 0, locals := 20 } : Room) (va_Pc [.ref q1, .ref q2] (PX g sz [(q2, .inr (8, [w13, w14, w15, w16, .int 0, w18, w19])), (q1, .inr (7, [w3, w4, w5, w6, w7, w8, w9, w10, w11, w12]))])) (QV g [(q2, .inr (8, [w13, w14, w15, w16, .int 0, w18, w19])), (q1, .inr (7, [w3, w4, w5, w6, w7, w8, w9, w10, w11, w12]))] sz (fun _ => [(q1, .inr (7, [w3, w4, w5, w6, w7, w8, .int 0, w10, w11, w12])), (q2, .inr (8, [w13, w14, w15, w16, .int 0, w18, w19]))])) 0 0 (va_A [(q2, .inr (8, [w13, w14, w15, w16, .int 0, w18, w19])), (q1, .inr (7, [w3, w4, w5, w6, w7, w8, w9, w10, w11, w12]))] sz) := by
  refine ofN (by decide) (Nat.le_of_ble_eq_true rfl) rfl ?_
  intro p e s m args below meth c A ls hAe hsz hx hb hml hr hlocks hin hown hE hP hD hA hS hl
  have hown : s.vm.findClass RX5 = some m.cls := hown
  refine lv_aload_n hx hb dX5_collectNotes_0 rfl (lv_at hl 0 rfl) ?_
  refine lv_iconst (v := 0) hx hb dX5_collectNotes_1 (by decide) ?_
  refine pf_RX5_37 (ws' := [(q2, .inr (8, [w13, w14, w15, w16, .int 0, w18, w19])), (q1, .inr (7, [w3, w4, w5, w6, w7, w8, .int 0, w10, w11, w12]))]) hx hb hown hE hP hD hS 1 rfl rfl rfl (Nat.le_of_ble_eq_true rfl) dX5_collectNotes_2 rfl (fun H locs hP hD hS => ?_)
  refine lv_iconst (v := 0) hx hb dX5_collectNotes_5 (by decide) ?_
  refine lv_istore_n (lv' := [(2, .int 0), (0, .ref q1), (1, .ref q2)]) hx hb dX5_collectNotes_6 rfl hl (by decide) rfl (fun ls hl => ?_)
  refine lv_iload_n hx hb dX5_collectNotes_7 rfl (lv_at hl 0 rfl) ?_
  refine lv_aload_n hx hb dX5_collectNotes_8 rfl (lv_at hl 2 rfl) ?_
  refine g_i (wr := [(q1, .inr (7, [w3, w4, w5, w6, w7, w8, .int 0, w10, w11, w12]))]) (rV (rest := [.int 0]) hx hb hml hown hE hP hD 0 rfl rfl (c72_X6_clipCount l g q2 w13 w14 w15 w16 w18 w19 H.size) (kV_X6_clipCount hE (e326 hE) rfl rfl ⟨(Nat.le_of_ble_eq_true rfl), (Nat.le_of_ble_eq_true rfl)⟩) [0] rfl (by decide) rfl hl.1 rfl (lv_room (Nat.le_of_ble_eq_true rfl)) dX5_collectNotes_9 ⟨(Nat.le_of_ble_eq_true rfl), (Nat.le_of_ble_eq_true rfl)⟩) hP hD hS hA [0] [1] rfl rfl (by decide) (by decide) (fun u1 H locs hP hD hS => ?_)
  have hP : va_P g.1 vwCl [(q1, .inr (7, [w3, w4, w5, w6, w7, w8, .int 0, w10, w11, w12])), (q2, .inr (8, [w13, w14, w15, w16, .int 0, w18, w19]))] H := hP
  have hD : va_D A [(q1, .inr (7, [w3, w4, w5, w6, w7, w8, .int 0, w10, w11, w12])), (q2, .inr (8, [w13, w14, w15, w16, .int 0, w18, w19]))] := hD
  refine lv_icmp_ge (tgt := 27) hx hb dX5_collectNotes_12 (by decide) (fun _ => ?_) (fun h => absurd (by decide) h)
  exact x_vret hx hb hr hlocks hP hD hS hAe hsz (Nat.le_of_ble_eq_true rfl) (Nat.le_of_ble_eq_true rfl) (fun _ => 0) [0, 1] (by decide) rfl dX5_collectNotes_27

set_option maxHeartbeats 4000000 in
set_option maxRecDepth 100000 in
theorem c1635_X1_sort (l : Launch) (g : gG) (q1 q2 q5 : Nat) (f3 : Nat → Int64) (sz : Nat) : Met l yX1_sort [Cond.code yX1_sort cX1_sort 6 none] ({ frames := 1, cells := 0, slots := 0, locals := 24 } : Room) (va_Pc [.ref q1, .ref q2, .int 0] (PX g sz [(q5, .inl (g.2 1, 300, .inr (.inl f3))), (q1, .inr (3, [.ref q5])), (q2, .inl (g.2 1, 300, .inr (.inl f3)))])) (QV g [(q5, .inl (g.2 1, 300, .inr (.inl f3))), (q1, .inr (3, [.ref q5])), (q2, .inl (g.2 1, 300, .inr (.inl f3)))] sz (fun _ => [(q5, .inl (g.2 1, 300, .inr (.inl f3))), (q1, .inr (3, [.ref q5])), (q2, .inl (g.2 1, 300, .inr (.inl f3)))])) 0 0 (va_A [(q5, .inl (g.2 1, 300, .inr (.inl f3))), (q1, .inr (3, [.ref q5])), (q2, .inl (g.2 1, 300, .inr (.inl f3)))] sz) := by
  refine ofN (by decide) (Nat.le_of_ble_eq_true rfl) rfl ?_
  intro p e s m args below meth c A ls hAe hsz hx hb hml hr hlocks hin hown hE hP hD hA hS hl
  have hown : s.vm.findClass RX1 = some m.cls := hown
  refine lv_iload_n hx hb dX1_sort_0 rfl (lv_at hl 2 rfl) ?_
  refine lv_aload_n hx hb dX1_sort_1 rfl (lv_at hl 1 rfl) ?_
  refine x_alenl (v := 300) hx hb hE hP 2 rfl rfl dX1_sort_2 ?_
  refine lv_aload_n hx hb dX1_sort_3 rfl (lv_at hl 0 rfl) ?_
  refine gf_RX1_13 hx hb hown hE hP 1 rfl rfl dX1_sort_4 ?_
  refine x_alenl (v := 300) hx hb hE hP 0 rfl rfl dX1_sort_7 ?_
  refine x_mmin (v := 300) hx hb (by rw [hml]; exact hl.1.symm) hown (e372 hE) (e362 hE) (e9 hE) (e363 hE) (Nat.le_of_ble_eq_true rfl) (Nat.le_of_ble_eq_true rfl) (Nat.le_of_ble_eq_true rfl) (Nat.le_of_ble_eq_true rfl) (by decide) dX1_sort_8 ?_
  refine x_mmin (v := 0) hx hb (by rw [hml]; exact hl.1.symm) hown (e372 hE) (e362 hE) (e9 hE) (e363 hE) (Nat.le_of_ble_eq_true rfl) (Nat.le_of_ble_eq_true rfl) (Nat.le_of_ble_eq_true rfl) (Nat.le_of_ble_eq_true rfl) (by decide) dX1_sort_11 ?_
  refine lv_istore_n (lv' := [(3, .int 0), (0, .ref q1), (1, .ref q2), (2, .int 0)]) hx hb dX1_sort_14 rfl hl (by decide) rfl (fun ls hl => ?_)
  refine lv_iconst (v := 1) hx hb dX1_sort_15 (by decide) ?_
  refine lv_istore (lv' := [(4, .int 1), (3, .int 0), (0, .ref q1), (1, .ref q2), (2, .int 0)]) hx hb dX1_sort_16 hl (by decide) rfl (fun ls hl => ?_)
  refine lv_iload hx hb dX1_sort_18 (lv_at hl 0 rfl) ?_
  refine lv_iload_n hx hb dX1_sort_20 rfl (lv_at hl 1 rfl) ?_
  refine lv_icmp_ge (tgt := 80) hx hb dX1_sort_21 (by decide) (fun _ => ?_) (fun h => absurd (by decide) h)
  exact x_vret hx hb hr hlocks hP hD hS hAe hsz (Nat.le_of_ble_eq_true rfl) (Nat.le_of_ble_eq_true rfl) (fun _ => 0) [0, 1, 2] (by decide) rfl dX1_sort_80

set_option maxHeartbeats 4000000 in
set_option maxRecDepth 100000 in
theorem c1636_X5_numberNotes (l : Launch) (g : gG) (q1 q2 q13 q14 q17 : Nat) (w3 w4 w5 w6 w10 w11 w12 : Value) (f15 : Nat → Int64) (sz : Nat) : Met l yX5_numberNotes [Cond.code yX5_numberNotes cX5_numberNotes 3 none] ({ frames := 2, cells := 0, slots := 0, locals := 49 } : Room) (va_Pc [.ref q1, .ref q2] (PX g sz [(q17, .inl (g.2 1, 300, .inr (.inl f15))), (q13, .inr (3, [.ref q17])), (q14, .inl (g.2 1, 300, .inr (.inl f15))), (q1, .inr (7, [w3, w4, w5, w6, .ref q14, .ref q13, .int 0, w10, w11, w12]))])) (QV g [(q17, .inl (g.2 1, 300, .inr (.inl f15))), (q13, .inr (3, [.ref q17])), (q14, .inl (g.2 1, 300, .inr (.inl f15))), (q1, .inr (7, [w3, w4, w5, w6, .ref q14, .ref q13, .int 0, w10, w11, w12]))] sz (fun _ => [(q1, .inr (7, [w3, w4, w5, w6, .ref q14, .ref q13, .int 0, w10, w11, w12])), (q17, .inl (g.2 1, 300, .inr (.inl f15))), (q13, .inr (3, [.ref q17])), (q14, .inl (g.2 1, 300, .inr (.inl f15)))])) 0 0 (va_A [(q17, .inl (g.2 1, 300, .inr (.inl f15))), (q13, .inr (3, [.ref q17])), (q14, .inl (g.2 1, 300, .inr (.inl f15))), (q1, .inr (7, [w3, w4, w5, w6, .ref q14, .ref q13, .int 0, w10, w11, w12]))] sz) := by
  refine ofN (by decide) (Nat.le_of_ble_eq_true rfl) rfl ?_
  intro p e s m args below meth c A ls hAe hsz hx hb hml hr hlocks hin hown hE hP hD hA hS hl
  have hown : s.vm.findClass RX5 = some m.cls := hown
  refine lv_aload_n hx hb dX5_numberNotes_0 rfl (lv_at hl 0 rfl) ?_
  refine gf_RX5_33 hx hb hown hE hP 3 rfl rfl dX5_numberNotes_1 ?_
  refine lv_aload_n hx hb dX5_numberNotes_4 rfl (lv_at hl 0 rfl) ?_
  refine gf_RX5_24 hx hb hown hE hP 3 rfl rfl dX5_numberNotes_5 ?_
  refine lv_aload_n hx hb dX5_numberNotes_8 rfl (lv_at hl 0 rfl) ?_
  refine gf_RX5_37 hx hb hown hE hP 3 rfl rfl dX5_numberNotes_9 ?_
  refine g_v (wr := [(q1, .inr (7, [w3, w4, w5, w6, .ref q14, .ref q13, .int 0, w10, w11, w12]))]) (rV (rest := []) hx hb hml hown hE hP hD 1 rfl rfl (c1635_X1_sort l g q13 q14 q17 f15 s.heap.size) (kV_X1_sort hE (e368 hE) rfl rfl ⟨(Nat.le_of_ble_eq_true rfl), (Nat.le_of_ble_eq_true rfl)⟩) [0, 1, 2] rfl (by decide) rfl hl.1 rfl (lv_room (Nat.le_of_ble_eq_true rfl)) dX5_numberNotes_12 ⟨(Nat.le_of_ble_eq_true rfl), (Nat.le_of_ble_eq_true rfl)⟩) hP hD hS hA [0, 1, 2] [3] rfl rfl (by decide) (by decide) (fun u1 H locs hP hD hS => ?_)
  have hP : va_P g.1 vwCl [(q1, .inr (7, [w3, w4, w5, w6, .ref q14, .ref q13, .int 0, w10, w11, w12])), (q17, .inl (g.2 1, 300, .inr (.inl f15))), (q13, .inr (3, [.ref q17])), (q14, .inl (g.2 1, 300, .inr (.inl f15)))] H := hP
  have hD : va_D A [(q1, .inr (7, [w3, w4, w5, w6, .ref q14, .ref q13, .int 0, w10, w11, w12])), (q17, .inl (g.2 1, 300, .inr (.inl f15))), (q13, .inr (3, [.ref q17])), (q14, .inl (g.2 1, 300, .inr (.inl f15)))] := hD
  refine lv_iconst (v := 0) hx hb dX5_numberNotes_15 (by decide) ?_
  refine lv_istore_n (lv' := [(2, .int 0), (0, .ref q1), (1, .ref q2)]) hx hb dX5_numberNotes_16 rfl hl (by decide) rfl (fun ls hl => ?_)
  refine lv_iload_n hx hb dX5_numberNotes_17 rfl (lv_at hl 0 rfl) ?_
  refine lv_aload_n hx hb dX5_numberNotes_18 rfl (lv_at hl 1 rfl) ?_
  refine gf_RX5_37 hx hb hown hE hP 0 rfl rfl dX5_numberNotes_19 ?_
  refine lv_icmp_ge (tgt := 37) hx hb dX5_numberNotes_22 (by decide) (fun _ => ?_) (fun h => absurd (by decide) h)
  exact x_vret hx hb hr hlocks hP hD hS hAe hsz (Nat.le_of_ble_eq_true rfl) (Nat.le_of_ble_eq_true rfl) (fun _ => 0) [0, 1, 2, 3] (by decide) rfl dX5_numberNotes_37

set_option maxHeartbeats 4000000 in
set_option maxRecDepth 100000 in
theorem c1637_X5_shareVoices (l : Launch) (g : gG) (q1 q2 q13 q15 q16 q17 q20 : Nat) (w3 w5 w10 w11 w12 : Value) (f14 : Nat → Int32) (f18 : Nat → Int64) (sz : Nat) : Met l yX5_shareVoices [Cond.code yX5_shareVoices cX5_shareVoices 5 none] ({ frames := 2, cells := 0, slots := 0, locals := 49 } : Room) (va_Pc [.ref q1, .ref q2] (PX g sz [(q20, .inl (g.2 1, 300, .inr (.inl f18))), (q16, .inr (3, [.ref q20])), (q17, .inl (g.2 1, 300, .inr (.inl f18))), (q15, .inl (g.2 0, 300, .inl f14)), (q13, .inl (g.2 0, 8, .inl f14)), (q1, .inr (7, [w3, .ref q15, w5, .ref q13, .ref q17, .ref q16, .int 0, w10, w11, w12]))])) (QV g [(q20, .inl (g.2 1, 300, .inr (.inl f18))), (q16, .inr (3, [.ref q20])), (q17, .inl (g.2 1, 300, .inr (.inl f18))), (q15, .inl (g.2 0, 300, .inl f14)), (q13, .inl (g.2 0, 8, .inl f14)), (q1, .inr (7, [w3, .ref q15, w5, .ref q13, .ref q17, .ref q16, .int 0, w10, w11, w12]))] sz (fun _ => [(q1, .inr (7, [w3, .ref q15, w5, .ref q13, .ref q17, .ref q16, .int 0, .int 0, .int 0, .int 0])), (q13, .inl (g.2 0, 8, .inl (fillF 8 (-1) f14))), (q15, .inl (g.2 0, 300, .inl (fillF 300 (-1) f14))), (q20, .inl (g.2 1, 300, .inr (.inl f18))), (q16, .inr (3, [.ref q20])), (q17, .inl (g.2 1, 300, .inr (.inl f18)))])) 0 0 (va_A [(q20, .inl (g.2 1, 300, .inr (.inl f18))), (q16, .inr (3, [.ref q20])), (q17, .inl (g.2 1, 300, .inr (.inl f18))), (q15, .inl (g.2 0, 300, .inl f14)), (q13, .inl (g.2 0, 8, .inl f14)), (q1, .inr (7, [w3, .ref q15, w5, .ref q13, .ref q17, .ref q16, .int 0, w10, w11, w12]))] sz) := by
  refine ofN (by decide) (Nat.le_of_ble_eq_true rfl) rfl ?_
  intro p e s m args below meth c A ls hAe hsz hx hb hml hr hlocks hin hown hE hP hD hA hS hl
  have hown : s.vm.findClass RX5 = some m.cls := hown
  refine lv_aload_n hx hb dX5_shareVoices_0 rfl (lv_at hl 0 rfl) ?_
  refine lv_iconst (v := 0) hx hb dX5_shareVoices_1 (by decide) ?_
  refine pf_RX5_41 (ws' := [(q20, .inl (g.2 1, 300, .inr (.inl f18))), (q16, .inr (3, [.ref q20])), (q17, .inl (g.2 1, 300, .inr (.inl f18))), (q15, .inl (g.2 0, 300, .inl f14)), (q13, .inl (g.2 0, 8, .inl f14)), (q1, .inr (7, [w3, .ref q15, w5, .ref q13, .ref q17, .ref q16, .int 0, .int 0, w11, w12]))]) hx hb hown hE hP hD hS 5 rfl rfl rfl (Nat.le_of_ble_eq_true rfl) dX5_shareVoices_2 rfl (fun H locs hP hD hS => ?_)
  refine lv_aload_n hx hb dX5_shareVoices_5 rfl (lv_at hl 0 rfl) ?_
  refine lv_iconst (v := 0) hx hb dX5_shareVoices_6 (by decide) ?_
  refine pf_RX5_44 (ws' := [(q20, .inl (g.2 1, 300, .inr (.inl f18))), (q16, .inr (3, [.ref q20])), (q17, .inl (g.2 1, 300, .inr (.inl f18))), (q15, .inl (g.2 0, 300, .inl f14)), (q13, .inl (g.2 0, 8, .inl f14)), (q1, .inr (7, [w3, .ref q15, w5, .ref q13, .ref q17, .ref q16, .int 0, .int 0, .int 0, w12]))]) hx hb hown hE hP hD hS 5 rfl rfl rfl (Nat.le_of_ble_eq_true rfl) dX5_shareVoices_7 rfl (fun H locs hP hD hS => ?_)
  refine lv_aload_n hx hb dX5_shareVoices_10 rfl (lv_at hl 0 rfl) ?_
  refine lv_iconst (v := 0) hx hb dX5_shareVoices_11 (by decide) ?_
  refine pf_RX5_47 (ws' := [(q20, .inl (g.2 1, 300, .inr (.inl f18))), (q16, .inr (3, [.ref q20])), (q17, .inl (g.2 1, 300, .inr (.inl f18))), (q15, .inl (g.2 0, 300, .inl f14)), (q13, .inl (g.2 0, 8, .inl f14)), (q1, .inr (7, [w3, .ref q15, w5, .ref q13, .ref q17, .ref q16, .int 0, .int 0, .int 0, .int 0]))]) hx hb hown hE hP hD hS 5 rfl rfl rfl (Nat.le_of_ble_eq_true rfl) dX5_shareVoices_12 rfl (fun H locs hP hD hS => ?_)
  refine lv_aload_n hx hb dX5_shareVoices_15 rfl (lv_at hl 0 rfl) ?_
  refine gf_RX5_21 hx hb hown hE hP 5 rfl rfl dX5_shareVoices_16 ?_
  refine lv_iconst (v := (-1)) hx hb dX5_shareVoices_19 (by decide) ?_
  refine g_v (wr := [(q20, .inl (g.2 1, 300, .inr (.inl f18))), (q16, .inr (3, [.ref q20])), (q17, .inl (g.2 1, 300, .inr (.inl f18))), (q15, .inl (g.2 0, 300, .inl f14)), (q1, .inr (7, [w3, .ref q15, w5, .ref q13, .ref q17, .ref q16, .int 0, .int 0, .int 0, .int 0]))]) (rS (rest := []) hx hb hml hown hE hP hD (h_fill l g q13 8 (-1) f14 (by decide) H.size) (kS_J7_fill_53178 hE (e425 hE) rfl rfl ⟨(Nat.le_of_ble_eq_true rfl), (Nat.le_of_ble_eq_true rfl)⟩) [4] rfl (by decide) rfl hl.1 rfl (lv_room (Nat.le_of_ble_eq_true rfl)) dX5_shareVoices_20 ⟨(Nat.le_of_ble_eq_true rfl), (Nat.le_of_ble_eq_true rfl)⟩) hP hD hS hA [4] [0, 1, 2, 3, 5] rfl rfl (by decide) (by decide) (fun u1 H locs hP hD hS => ?_)
  have hP : va_P g.1 vwCl [(q20, .inl (g.2 1, 300, .inr (.inl f18))), (q16, .inr (3, [.ref q20])), (q17, .inl (g.2 1, 300, .inr (.inl f18))), (q15, .inl (g.2 0, 300, .inl f14)), (q1, .inr (7, [w3, .ref q15, w5, .ref q13, .ref q17, .ref q16, .int 0, .int 0, .int 0, .int 0])), (q13, .inl (g.2 0, 8, .inl (fillF 8 (-1) f14)))] H := hP
  have hD : va_D A [(q20, .inl (g.2 1, 300, .inr (.inl f18))), (q16, .inr (3, [.ref q20])), (q17, .inl (g.2 1, 300, .inr (.inl f18))), (q15, .inl (g.2 0, 300, .inl f14)), (q1, .inr (7, [w3, .ref q15, w5, .ref q13, .ref q17, .ref q16, .int 0, .int 0, .int 0, .int 0])), (q13, .inl (g.2 0, 8, .inl (fillF 8 (-1) f14)))] := hD
  refine lv_aload_n hx hb dX5_shareVoices_23 rfl (lv_at hl 0 rfl) ?_
  refine gf_RX5_15 hx hb hown hE hP 4 rfl rfl dX5_shareVoices_24 ?_
  refine lv_iconst (v := (-1)) hx hb dX5_shareVoices_27 (by decide) ?_
  refine g_v (wr := [(q20, .inl (g.2 1, 300, .inr (.inl f18))), (q16, .inr (3, [.ref q20])), (q17, .inl (g.2 1, 300, .inr (.inl f18))), (q1, .inr (7, [w3, .ref q15, w5, .ref q13, .ref q17, .ref q16, .int 0, .int 0, .int 0, .int 0])), (q13, .inl (g.2 0, 8, .inl (fillF 8 (-1) f14)))]) (rS (rest := []) hx hb hml hown hE hP hD (h_fill l g q15 300 (-1) f14 (by decide) H.size) (kS_J7_fill_53178 hE (e425 hE) rfl rfl ⟨(Nat.le_of_ble_eq_true rfl), (Nat.le_of_ble_eq_true rfl)⟩) [3] rfl (by decide) rfl hl.1 rfl (lv_room (Nat.le_of_ble_eq_true rfl)) dX5_shareVoices_28 ⟨(Nat.le_of_ble_eq_true rfl), (Nat.le_of_ble_eq_true rfl)⟩) hP hD hS hA [3] [0, 1, 2, 4, 5] rfl rfl (by decide) (by decide) (fun u2 H locs hP hD hS => ?_)
  have hP : va_P g.1 vwCl [(q20, .inl (g.2 1, 300, .inr (.inl f18))), (q16, .inr (3, [.ref q20])), (q17, .inl (g.2 1, 300, .inr (.inl f18))), (q1, .inr (7, [w3, .ref q15, w5, .ref q13, .ref q17, .ref q16, .int 0, .int 0, .int 0, .int 0])), (q13, .inl (g.2 0, 8, .inl (fillF 8 (-1) f14))), (q15, .inl (g.2 0, 300, .inl (fillF 300 (-1) f14)))] H := hP
  have hD : va_D A [(q20, .inl (g.2 1, 300, .inr (.inl f18))), (q16, .inr (3, [.ref q20])), (q17, .inl (g.2 1, 300, .inr (.inl f18))), (q1, .inr (7, [w3, .ref q15, w5, .ref q13, .ref q17, .ref q16, .int 0, .int 0, .int 0, .int 0])), (q13, .inl (g.2 0, 8, .inl (fillF 8 (-1) f14))), (q15, .inl (g.2 0, 300, .inl (fillF 300 (-1) f14)))] := hD
  refine lv_iconst (v := 0) hx hb dX5_shareVoices_31 (by decide) ?_
  refine lv_istore_n (lv' := [(2, .int 0), (0, .ref q1), (1, .ref q2)]) hx hb dX5_shareVoices_32 rfl hl (by decide) rfl (fun ls hl => ?_)
  refine lv_iload_n hx hb dX5_shareVoices_33 rfl (lv_at hl 0 rfl) ?_
  refine lv_aload_n hx hb dX5_shareVoices_34 rfl (lv_at hl 1 rfl) ?_
  refine gf_RX5_37 hx hb hown hE hP 3 rfl rfl dX5_shareVoices_35 ?_
  refine lv_icmp_ge (tgt := 58) hx hb dX5_shareVoices_38 (by decide) (fun _ => ?_) (fun h => absurd (by decide) h)
  refine lv_aload_n hx hb dX5_shareVoices_58 rfl (lv_at hl 1 rfl) ?_
  refine gf_RX5_33 hx hb hown hE hP 3 rfl rfl dX5_shareVoices_59 ?_
  refine lv_aload_n hx hb dX5_shareVoices_62 rfl (lv_at hl 1 rfl) ?_
  refine gf_RX5_24 hx hb hown hE hP 3 rfl rfl dX5_shareVoices_63 ?_
  refine lv_aload_n hx hb dX5_shareVoices_66 rfl (lv_at hl 1 rfl) ?_
  refine gf_RX5_37 hx hb hown hE hP 3 rfl rfl dX5_shareVoices_67 ?_
  refine g_v (wr := [(q1, .inr (7, [w3, .ref q15, w5, .ref q13, .ref q17, .ref q16, .int 0, .int 0, .int 0, .int 0])), (q13, .inl (g.2 0, 8, .inl (fillF 8 (-1) f14))), (q15, .inl (g.2 0, 300, .inl (fillF 300 (-1) f14)))]) (rV (rest := []) hx hb hml hown hE hP hD 1 rfl rfl (c1635_X1_sort l g q16 q17 q20 f18 H.size) (kV_X1_sort hE (e368 hE) rfl rfl ⟨(Nat.le_of_ble_eq_true rfl), (Nat.le_of_ble_eq_true rfl)⟩) [0, 1, 2] rfl (by decide) rfl hl.1 rfl (lv_room (Nat.le_of_ble_eq_true rfl)) dX5_shareVoices_70 ⟨(Nat.le_of_ble_eq_true rfl), (Nat.le_of_ble_eq_true rfl)⟩) hP hD hS hA [0, 1, 2] [3, 4, 5] rfl rfl (by decide) (by decide) (fun u3 H locs hP hD hS => ?_)
  have hP : va_P g.1 vwCl [(q1, .inr (7, [w3, .ref q15, w5, .ref q13, .ref q17, .ref q16, .int 0, .int 0, .int 0, .int 0])), (q13, .inl (g.2 0, 8, .inl (fillF 8 (-1) f14))), (q15, .inl (g.2 0, 300, .inl (fillF 300 (-1) f14))), (q20, .inl (g.2 1, 300, .inr (.inl f18))), (q16, .inr (3, [.ref q20])), (q17, .inl (g.2 1, 300, .inr (.inl f18)))] H := hP
  have hD : va_D A [(q1, .inr (7, [w3, .ref q15, w5, .ref q13, .ref q17, .ref q16, .int 0, .int 0, .int 0, .int 0])), (q13, .inl (g.2 0, 8, .inl (fillF 8 (-1) f14))), (q15, .inl (g.2 0, 300, .inl (fillF 300 (-1) f14))), (q20, .inl (g.2 1, 300, .inr (.inl f18))), (q16, .inr (3, [.ref q20])), (q17, .inl (g.2 1, 300, .inr (.inl f18)))] := hD
  refine lv_iconst (v := 0) hx hb dX5_shareVoices_73 (by decide) ?_
  refine lv_istore_n (lv' := [(2, .int 0), (0, .ref q1), (1, .ref q2)]) hx hb dX5_shareVoices_74 rfl hl (by decide) rfl (fun ls hl => ?_)
  refine lv_iload_n hx hb dX5_shareVoices_75 rfl (lv_at hl 0 rfl) ?_
  refine lv_aload_n hx hb dX5_shareVoices_76 rfl (lv_at hl 1 rfl) ?_
  refine gf_RX5_37 hx hb hown hE hP 0 rfl rfl dX5_shareVoices_77 ?_
  refine lv_icmp_ge (tgt := 147) hx hb dX5_shareVoices_80 (by decide) (fun _ => ?_) (fun h => absurd (by decide) h)
  exact x_vret hx hb hr hlocks hP hD hS hAe hsz (Nat.le_of_ble_eq_true rfl) (Nat.le_of_ble_eq_true rfl) (fun _ => 0) [0, 1, 2, 3, 4, 5] (by decide) rfl dX5_shareVoices_147

set_option maxHeartbeats 4000000 in
set_option maxRecDepth 100000 in
theorem c1638_X9_upToDateScore (l : Launch) (g : gG) (q1 q13 q17 q20 q21 q39 q40 q43 q44 q46 : Nat) (w3 w5 w6 w7 w8 w9 w11 w12 w16 w22 w24 w28 w29 w30 w31 w32 w33 w34 w35 w37 w38 : Value) (f18 : Nat → Option Nat) (f41 : Nat → Int64) (f45 : Nat → Int32) (hf19 : f18 0 = some q20) (sz : Nat) : Met l yX9_upToDateScore [Cond.code yX9_upToDateScore cX9_upToDateScore 2 (some (.object "PatternSequencer$Score"))] ({ frames := 3, cells := 0, slots := 0, locals := 73 } : Room) (va_Pc [.ref q1] (PX g sz [(q46, .inl (g.2 0, 300, .inl f45)), (q44, .inl (g.2 0, 8, .inl f45)), (q43, .inl (g.2 1, 300, .inr (.inl f41))), (q39, .inr (3, [.ref q43])), (q40, .inl (g.2 1, 300, .inr (.inl f41))), (q20, .inr (8, [w32, w33, w34, w35, .int 0, w37, w38])), (q21, .inr (7, [w22, .ref q46, w24, .ref q44, .ref q40, .ref q39, w28, w29, w30, w31])), (q17, .inl (g.2 3, 10, .inr (.inr (.inr (.inr f18))))), (q13, .inr (10, [.ref q17, .int 0, w16])), (q1, .inr (11, [.ref q13, w3, .ref q21, w5, w6, w7, w8, w9, .int 0, w11, w12]))])) (QR g [(q46, .inl (g.2 0, 300, .inl f45)), (q44, .inl (g.2 0, 8, .inl f45)), (q43, .inl (g.2 1, 300, .inr (.inl f41))), (q39, .inr (3, [.ref q43])), (q40, .inl (g.2 1, 300, .inr (.inl f41))), (q20, .inr (8, [w32, w33, w34, w35, .int 0, w37, w38])), (q21, .inr (7, [w22, .ref q46, w24, .ref q44, .ref q40, .ref q39, w28, w29, w30, w31])), (q17, .inl (g.2 3, 10, .inr (.inr (.inr (.inr f18))))), (q13, .inr (10, [.ref q17, .int 0, w16])), (q1, .inr (11, [.ref q13, w3, .ref q21, w5, w6, w7, w8, w9, .int 0, w11, w12]))] sz q21 (fun _ => [(q1, .inr (11, [.ref q13, w3, .ref q21, w5, w6, w7, w8, w9, .int 1, w11, w12])), (q17, .inl (g.2 3, 10, .inr (.inr (.inr (.inr f18))))), (q13, .inr (10, [.ref q17, .int 0, w16])), (q20, .inr (8, [w32, w33, w34, w35, .int 0, w37, w38])), (q21, .inr (7, [w22, .ref q46, w24, .ref q44, .ref q40, .ref q39, .int 0, .int 0, .int 0, .int 0])), (q44, .inl (g.2 0, 8, .inl (fillF 8 (-1) f45))), (q46, .inl (g.2 0, 300, .inl (fillF 300 (-1) f45))), (q43, .inl (g.2 1, 300, .inr (.inl f41))), (q39, .inr (3, [.ref q43])), (q40, .inl (g.2 1, 300, .inr (.inl f41)))])) 0 0 (va_A [(q46, .inl (g.2 0, 300, .inl f45)), (q44, .inl (g.2 0, 8, .inl f45)), (q43, .inl (g.2 1, 300, .inr (.inl f41))), (q39, .inr (3, [.ref q43])), (q40, .inl (g.2 1, 300, .inr (.inl f41))), (q20, .inr (8, [w32, w33, w34, w35, .int 0, w37, w38])), (q21, .inr (7, [w22, .ref q46, w24, .ref q44, .ref q40, .ref q39, w28, w29, w30, w31])), (q17, .inl (g.2 3, 10, .inr (.inr (.inr (.inr f18))))), (q13, .inr (10, [.ref q17, .int 0, w16])), (q1, .inr (11, [.ref q13, w3, .ref q21, w5, w6, w7, w8, w9, .int 0, w11, w12]))] sz) := by
  refine ofN (by decide) (Nat.le_of_ble_eq_true rfl) rfl ?_
  intro p e s m args below meth c A ls hAe hsz hx hb hml hr hlocks hin hown hE hP hD hA hS hl
  have hown : s.vm.findClass RX9 = some m.cls := hown
  refine lv_aload_n hx hb dX9_upToDateScore_0 rfl (lv_at hl 0 rfl) ?_
  refine gf_RX9_60 hx hb hown hE hP 9 rfl rfl dX9_upToDateScore_1 ?_
  refine lv_if_ne (tgt := 44) hx hb dX9_upToDateScore_4 (by decide) (fun h => absurd h (by decide)) (fun _ => ?_)
  refine lv_aload_n hx hb dX9_upToDateScore_7 rfl (lv_at hl 0 rfl) ?_
  refine gf_RX9_12 hx hb hown hE hP 9 rfl rfl dX9_upToDateScore_8 ?_
  refine g_r (wr := [(q46, .inl (g.2 0, 300, .inl f45)), (q44, .inl (g.2 0, 8, .inl f45)), (q43, .inl (g.2 1, 300, .inr (.inl f41))), (q39, .inr (3, [.ref q43])), (q40, .inl (g.2 1, 300, .inr (.inl f41))), (q20, .inr (8, [w32, w33, w34, w35, .int 0, w37, w38])), (q21, .inr (7, [w22, .ref q46, w24, .ref q44, .ref q40, .ref q39, w28, w29, w30, w31])), (q1, .inr (11, [.ref q13, w3, .ref q21, w5, w6, w7, w8, w9, .int 0, w11, w12]))]) (rV (rest := []) hx hb hml hown hE hP hD 8 rfl rfl (c71_X8_current l g q13 q17 q20 w16 f18 (hf19) s.heap.size) (kV_X8_current hE (e290 hE) rfl rfl ⟨(Nat.le_of_ble_eq_true rfl), (Nat.le_of_ble_eq_true rfl)⟩) [7, 8] rfl (by decide) rfl hl.1 rfl (lv_room (Nat.le_of_ble_eq_true rfl)) dX9_upToDateScore_11 ⟨(Nat.le_of_ble_eq_true rfl), (Nat.le_of_ble_eq_true rfl)⟩) hP hD hS hA [7, 8] [0, 1, 2, 3, 4, 5, 6, 9] rfl rfl (by decide) (by decide) (fun u1 H locs hP hD hS => ?_)
  have hP : va_P g.1 vwCl [(q46, .inl (g.2 0, 300, .inl f45)), (q44, .inl (g.2 0, 8, .inl f45)), (q43, .inl (g.2 1, 300, .inr (.inl f41))), (q39, .inr (3, [.ref q43])), (q40, .inl (g.2 1, 300, .inr (.inl f41))), (q20, .inr (8, [w32, w33, w34, w35, .int 0, w37, w38])), (q21, .inr (7, [w22, .ref q46, w24, .ref q44, .ref q40, .ref q39, w28, w29, w30, w31])), (q1, .inr (11, [.ref q13, w3, .ref q21, w5, w6, w7, w8, w9, .int 0, w11, w12])), (q17, .inl (g.2 3, 10, .inr (.inr (.inr (.inr f18))))), (q13, .inr (10, [.ref q17, .int 0, w16]))] H := hP
  have hD : va_D A [(q46, .inl (g.2 0, 300, .inl f45)), (q44, .inl (g.2 0, 8, .inl f45)), (q43, .inl (g.2 1, 300, .inr (.inl f41))), (q39, .inr (3, [.ref q43])), (q40, .inl (g.2 1, 300, .inr (.inl f41))), (q20, .inr (8, [w32, w33, w34, w35, .int 0, w37, w38])), (q21, .inr (7, [w22, .ref q46, w24, .ref q44, .ref q40, .ref q39, w28, w29, w30, w31])), (q1, .inr (11, [.ref q13, w3, .ref q21, w5, w6, w7, w8, w9, .int 0, w11, w12])), (q17, .inl (g.2 3, 10, .inr (.inr (.inr (.inr f18))))), (q13, .inr (10, [.ref q17, .int 0, w16]))] := hD
  refine lv_astore_n (lv' := [(1, .ref q20), (0, .ref q1)]) hx hb dX9_upToDateScore_14 rfl hl (by decide) rfl (fun ls hl => ?_)
  refine lv_aload_n hx hb dX9_upToDateScore_15 rfl (lv_at hl 1 rfl) ?_
  refine gf_RX9_26 hx hb hown hE hP 7 rfl rfl dX9_upToDateScore_16 ?_
  refine lv_aload_n hx hb dX9_upToDateScore_19 rfl (lv_at hl 0 rfl) ?_
  refine g_v (wr := [(q46, .inl (g.2 0, 300, .inl f45)), (q44, .inl (g.2 0, 8, .inl f45)), (q43, .inl (g.2 1, 300, .inr (.inl f41))), (q39, .inr (3, [.ref q43])), (q40, .inl (g.2 1, 300, .inr (.inl f41))), (q1, .inr (11, [.ref q13, w3, .ref q21, w5, w6, w7, w8, w9, .int 0, w11, w12])), (q17, .inl (g.2 3, 10, .inr (.inr (.inr (.inr f18))))), (q13, .inr (10, [.ref q17, .int 0, w16]))]) (rV (rest := []) hx hb hml hown hE hP hD 6 rfl rfl (c1634_X5_collectNotes l g q21 q20 w22 (.ref q46) w24 (.ref q44) (.ref q40) (.ref q39) w28 w29 w30 w31 w32 w33 w34 w35 w37 w38 H.size) (kV_X5_collectNotes hE (e322 hE) rfl rfl ⟨(Nat.le_of_ble_eq_true rfl), (Nat.le_of_ble_eq_true rfl)⟩) [5, 6] rfl (by decide) rfl hl.1 rfl (lv_room (Nat.le_of_ble_eq_true rfl)) dX9_upToDateScore_20 ⟨(Nat.le_of_ble_eq_true rfl), (Nat.le_of_ble_eq_true rfl)⟩) hP hD hS hA [5, 6] [0, 1, 2, 3, 4, 7, 8, 9] rfl rfl (by decide) (by decide) (fun u2 H locs hP hD hS => ?_)
  have hP : va_P g.1 vwCl [(q46, .inl (g.2 0, 300, .inl f45)), (q44, .inl (g.2 0, 8, .inl f45)), (q43, .inl (g.2 1, 300, .inr (.inl f41))), (q39, .inr (3, [.ref q43])), (q40, .inl (g.2 1, 300, .inr (.inl f41))), (q1, .inr (11, [.ref q13, w3, .ref q21, w5, w6, w7, w8, w9, .int 0, w11, w12])), (q17, .inl (g.2 3, 10, .inr (.inr (.inr (.inr f18))))), (q13, .inr (10, [.ref q17, .int 0, w16])), (q21, .inr (7, [w22, .ref q46, w24, .ref q44, .ref q40, .ref q39, .int 0, w29, w30, w31])), (q20, .inr (8, [w32, w33, w34, w35, .int 0, w37, w38]))] H := hP
  have hD : va_D A [(q46, .inl (g.2 0, 300, .inl f45)), (q44, .inl (g.2 0, 8, .inl f45)), (q43, .inl (g.2 1, 300, .inr (.inl f41))), (q39, .inr (3, [.ref q43])), (q40, .inl (g.2 1, 300, .inr (.inl f41))), (q1, .inr (11, [.ref q13, w3, .ref q21, w5, w6, w7, w8, w9, .int 0, w11, w12])), (q17, .inl (g.2 3, 10, .inr (.inr (.inr (.inr f18))))), (q13, .inr (10, [.ref q17, .int 0, w16])), (q21, .inr (7, [w22, .ref q46, w24, .ref q44, .ref q40, .ref q39, .int 0, w29, w30, w31])), (q20, .inr (8, [w32, w33, w34, w35, .int 0, w37, w38]))] := hD
  refine lv_aload_n hx hb dX9_upToDateScore_23 rfl (lv_at hl 1 rfl) ?_
  refine gf_RX9_26 hx hb hown hE hP 5 rfl rfl dX9_upToDateScore_24 ?_
  refine lv_aload_n hx hb dX9_upToDateScore_27 rfl (lv_at hl 0 rfl) ?_
  refine g_v (wr := [(q46, .inl (g.2 0, 300, .inl f45)), (q44, .inl (g.2 0, 8, .inl f45)), (q1, .inr (11, [.ref q13, w3, .ref q21, w5, w6, w7, w8, w9, .int 0, w11, w12])), (q17, .inl (g.2 3, 10, .inr (.inr (.inr (.inr f18))))), (q13, .inr (10, [.ref q17, .int 0, w16])), (q20, .inr (8, [w32, w33, w34, w35, .int 0, w37, w38]))]) (rV (rest := []) hx hb hml hown hE hP hD 8 rfl rfl (c1636_X5_numberNotes l g q21 q20 q39 q40 q43 w22 (.ref q46) w24 (.ref q44) w29 w30 w31 f41 H.size) (kV_X5_numberNotes hE (e364 hE) rfl rfl ⟨(Nat.le_of_ble_eq_true rfl), (Nat.le_of_ble_eq_true rfl)⟩) [2, 3, 4, 8] rfl (by decide) rfl hl.1 rfl (lv_room (Nat.le_of_ble_eq_true rfl)) dX9_upToDateScore_28 ⟨(Nat.le_of_ble_eq_true rfl), (Nat.le_of_ble_eq_true rfl)⟩) hP hD hS hA [2, 3, 4, 8] [0, 1, 5, 6, 7, 9] rfl rfl (by decide) (by decide) (fun u3 H locs hP hD hS => ?_)
  have hP : va_P g.1 vwCl [(q46, .inl (g.2 0, 300, .inl f45)), (q44, .inl (g.2 0, 8, .inl f45)), (q1, .inr (11, [.ref q13, w3, .ref q21, w5, w6, w7, w8, w9, .int 0, w11, w12])), (q17, .inl (g.2 3, 10, .inr (.inr (.inr (.inr f18))))), (q13, .inr (10, [.ref q17, .int 0, w16])), (q20, .inr (8, [w32, w33, w34, w35, .int 0, w37, w38])), (q21, .inr (7, [w22, .ref q46, w24, .ref q44, .ref q40, .ref q39, .int 0, w29, w30, w31])), (q43, .inl (g.2 1, 300, .inr (.inl f41))), (q39, .inr (3, [.ref q43])), (q40, .inl (g.2 1, 300, .inr (.inl f41)))] H := hP
  have hD : va_D A [(q46, .inl (g.2 0, 300, .inl f45)), (q44, .inl (g.2 0, 8, .inl f45)), (q1, .inr (11, [.ref q13, w3, .ref q21, w5, w6, w7, w8, w9, .int 0, w11, w12])), (q17, .inl (g.2 3, 10, .inr (.inr (.inr (.inr f18))))), (q13, .inr (10, [.ref q17, .int 0, w16])), (q20, .inr (8, [w32, w33, w34, w35, .int 0, w37, w38])), (q21, .inr (7, [w22, .ref q46, w24, .ref q44, .ref q40, .ref q39, .int 0, w29, w30, w31])), (q43, .inl (g.2 1, 300, .inr (.inl f41))), (q39, .inr (3, [.ref q43])), (q40, .inl (g.2 1, 300, .inr (.inl f41)))] := hD
  refine lv_aload_n hx hb dX9_upToDateScore_31 rfl (lv_at hl 1 rfl) ?_
  refine gf_RX9_26 hx hb hown hE hP 2 rfl rfl dX9_upToDateScore_32 ?_
  refine lv_aload_n hx hb dX9_upToDateScore_35 rfl (lv_at hl 0 rfl) ?_
  refine g_v (wr := [(q1, .inr (11, [.ref q13, w3, .ref q21, w5, w6, w7, w8, w9, .int 0, w11, w12])), (q17, .inl (g.2 3, 10, .inr (.inr (.inr (.inr f18))))), (q13, .inr (10, [.ref q17, .int 0, w16])), (q20, .inr (8, [w32, w33, w34, w35, .int 0, w37, w38]))]) (rV (rest := []) hx hb hml hown hE hP hD 6 rfl rfl (c1637_X5_shareVoices l g q21 q20 q44 q46 q39 q40 q43 w22 w24 w29 w30 w31 f45 f41 H.size) (kV_X5_shareVoices hE (e421 hE) rfl rfl ⟨(Nat.le_of_ble_eq_true rfl), (Nat.le_of_ble_eq_true rfl)⟩) [7, 8, 9, 0, 1, 6] rfl (by decide) rfl hl.1 rfl (lv_room (Nat.le_of_ble_eq_true rfl)) dX9_upToDateScore_36 ⟨(Nat.le_of_ble_eq_true rfl), (Nat.le_of_ble_eq_true rfl)⟩) hP hD hS hA [7, 8, 9, 0, 1, 6] [2, 3, 4, 5] rfl rfl (by decide) (by decide) (fun u4 H locs hP hD hS => ?_)
  have hP : va_P g.1 vwCl [(q1, .inr (11, [.ref q13, w3, .ref q21, w5, w6, w7, w8, w9, .int 0, w11, w12])), (q17, .inl (g.2 3, 10, .inr (.inr (.inr (.inr f18))))), (q13, .inr (10, [.ref q17, .int 0, w16])), (q20, .inr (8, [w32, w33, w34, w35, .int 0, w37, w38])), (q21, .inr (7, [w22, .ref q46, w24, .ref q44, .ref q40, .ref q39, .int 0, .int 0, .int 0, .int 0])), (q44, .inl (g.2 0, 8, .inl (fillF 8 (-1) f45))), (q46, .inl (g.2 0, 300, .inl (fillF 300 (-1) f45))), (q43, .inl (g.2 1, 300, .inr (.inl f41))), (q39, .inr (3, [.ref q43])), (q40, .inl (g.2 1, 300, .inr (.inl f41)))] H := hP
  have hD : va_D A [(q1, .inr (11, [.ref q13, w3, .ref q21, w5, w6, w7, w8, w9, .int 0, w11, w12])), (q17, .inl (g.2 3, 10, .inr (.inr (.inr (.inr f18))))), (q13, .inr (10, [.ref q17, .int 0, w16])), (q20, .inr (8, [w32, w33, w34, w35, .int 0, w37, w38])), (q21, .inr (7, [w22, .ref q46, w24, .ref q44, .ref q40, .ref q39, .int 0, .int 0, .int 0, .int 0])), (q44, .inl (g.2 0, 8, .inl (fillF 8 (-1) f45))), (q46, .inl (g.2 0, 300, .inl (fillF 300 (-1) f45))), (q43, .inl (g.2 1, 300, .inr (.inl f41))), (q39, .inr (3, [.ref q43])), (q40, .inl (g.2 1, 300, .inr (.inl f41)))] := hD
  refine lv_aload_n hx hb dX9_upToDateScore_39 rfl (lv_at hl 1 rfl) ?_
  refine lv_iconst (v := 1) hx hb dX9_upToDateScore_40 (by decide) ?_
  refine pf_RX9_60 (ws' := [(q1, .inr (11, [.ref q13, w3, .ref q21, w5, w6, w7, w8, w9, .int 1, w11, w12])), (q17, .inl (g.2 3, 10, .inr (.inr (.inr (.inr f18))))), (q13, .inr (10, [.ref q17, .int 0, w16])), (q20, .inr (8, [w32, w33, w34, w35, .int 0, w37, w38])), (q21, .inr (7, [w22, .ref q46, w24, .ref q44, .ref q40, .ref q39, .int 0, .int 0, .int 0, .int 0])), (q44, .inl (g.2 0, 8, .inl (fillF 8 (-1) f45))), (q46, .inl (g.2 0, 300, .inl (fillF 300 (-1) f45))), (q43, .inl (g.2 1, 300, .inr (.inl f41))), (q39, .inr (3, [.ref q43])), (q40, .inl (g.2 1, 300, .inr (.inl f41)))]) hx hb hown hE hP hD hS 0 rfl rfl rfl (Nat.le_of_ble_eq_true rfl) dX9_upToDateScore_41 rfl (fun H locs hP hD hS => ?_)
  refine lv_aload_n hx hb dX9_upToDateScore_44 rfl (lv_at hl 1 rfl) ?_
  refine gf_RX9_26 hx hb hown hE hP 0 rfl rfl dX9_upToDateScore_45 ?_
  exact x_aret hx hb hr (Or.inl ⟨_, rfl⟩) hlocks hP hD hS hAe hsz (Nat.le_of_ble_eq_true rfl) (Nat.le_of_ble_eq_true rfl) (fun _ => 0) [0, 1, 2, 3, 4, 5, 6, 7, 8, 9] (by decide) rfl dX9_upToDateScore_48

set_option maxHeartbeats 4000000 in
set_option maxRecDepth 100000 in
theorem c1639_X5_noteCount (l : Launch) (g : gG) (q1 : Nat) (w2 w3 w4 w5 w6 w7 w9 w10 w11 : Value) (sz : Nat) : Met l yX5_noteCount [Cond.code yX5_noteCount cX5_noteCount 1 (some .int)] ({ frames := 0, cells := 0, slots := 0, locals := 0 } : Room) (va_Pc [.ref q1] (PX g sz [(q1, .inr (7, [w2, w3, w4, w5, w6, w7, .int 0, w9, w10, w11]))])) (QI g [(q1, .inr (7, [w2, w3, w4, w5, w6, w7, .int 0, w9, w10, w11]))] sz 0 (fun _ => [(q1, .inr (7, [w2, w3, w4, w5, w6, w7, .int 0, w9, w10, w11]))])) 0 0 (va_A [(q1, .inr (7, [w2, w3, w4, w5, w6, w7, .int 0, w9, w10, w11]))] sz) := by
  refine ofN (by decide) (Nat.le_of_ble_eq_true rfl) rfl ?_
  intro p e s m args below meth c A ls hAe hsz hx hb hml hr hlocks hin hown hE hP hD hA hS hl
  have hown : s.vm.findClass RX5 = some m.cls := hown
  refine lv_aload_n hx hb dX5_noteCount_0 rfl (lv_at hl 0 rfl) ?_
  refine gf_RX5_37 hx hb hown hE hP 0 rfl rfl dX5_noteCount_1 ?_
  exact x_zret hx hb hr rfl rfl hlocks hP hD hS hAe hsz (Nat.le_of_ble_eq_true rfl) (Nat.le_of_ble_eq_true rfl) (fun _ => 0) [0] (by decide) rfl dX5_noteCount_4

set_option maxHeartbeats 4000000 in
set_option maxRecDepth 100000 in
theorem c1640_X9_count (l : Launch) (g : gG) (q1 q13 q17 q20 q21 q39 q40 q43 q44 q46 : Nat) (w3 w5 w6 w7 w8 w9 w11 w12 w16 w22 w24 w28 w29 w30 w31 w32 w33 w34 w35 w37 w38 : Value) (f18 : Nat → Option Nat) (f41 : Nat → Int64) (f45 : Nat → Int32) (hf19 : f18 0 = some q20) (sz : Nat) : Met l yX9_count [Cond.code yX9_count cX9_count 3 (some .int)] ({ frames := 4, cells := 0, slots := 0, locals := 94 } : Room) (va_Pc [.ref q1, .int 1] (PX g sz [(q46, .inl (g.2 0, 300, .inl f45)), (q44, .inl (g.2 0, 8, .inl f45)), (q43, .inl (g.2 1, 300, .inr (.inl f41))), (q39, .inr (3, [.ref q43])), (q40, .inl (g.2 1, 300, .inr (.inl f41))), (q20, .inr (8, [w32, w33, w34, w35, .int 0, w37, w38])), (q21, .inr (7, [w22, .ref q46, w24, .ref q44, .ref q40, .ref q39, w28, w29, w30, w31])), (q17, .inl (g.2 3, 10, .inr (.inr (.inr (.inr f18))))), (q13, .inr (10, [.ref q17, .int 0, w16])), (q1, .inr (11, [.ref q13, w3, .ref q21, w5, w6, w7, w8, w9, .int 0, w11, w12]))])) (QI g [(q46, .inl (g.2 0, 300, .inl f45)), (q44, .inl (g.2 0, 8, .inl f45)), (q43, .inl (g.2 1, 300, .inr (.inl f41))), (q39, .inr (3, [.ref q43])), (q40, .inl (g.2 1, 300, .inr (.inl f41))), (q20, .inr (8, [w32, w33, w34, w35, .int 0, w37, w38])), (q21, .inr (7, [w22, .ref q46, w24, .ref q44, .ref q40, .ref q39, w28, w29, w30, w31])), (q17, .inl (g.2 3, 10, .inr (.inr (.inr (.inr f18))))), (q13, .inr (10, [.ref q17, .int 0, w16])), (q1, .inr (11, [.ref q13, w3, .ref q21, w5, w6, w7, w8, w9, .int 0, w11, w12]))] sz 0 (fun _ => [(q1, .inr (11, [.ref q13, w3, .ref q21, w5, w6, w7, w8, w9, .int 1, w11, w12])), (q17, .inl (g.2 3, 10, .inr (.inr (.inr (.inr f18))))), (q13, .inr (10, [.ref q17, .int 0, w16])), (q20, .inr (8, [w32, w33, w34, w35, .int 0, w37, w38])), (q44, .inl (g.2 0, 8, .inl (fillF 8 (-1) f45))), (q46, .inl (g.2 0, 300, .inl (fillF 300 (-1) f45))), (q43, .inl (g.2 1, 300, .inr (.inl f41))), (q39, .inr (3, [.ref q43])), (q40, .inl (g.2 1, 300, .inr (.inl f41))), (q21, .inr (7, [w22, .ref q46, w24, .ref q44, .ref q40, .ref q39, .int 0, .int 0, .int 0, .int 0]))])) 0 0 (va_A [(q46, .inl (g.2 0, 300, .inl f45)), (q44, .inl (g.2 0, 8, .inl f45)), (q43, .inl (g.2 1, 300, .inr (.inl f41))), (q39, .inr (3, [.ref q43])), (q40, .inl (g.2 1, 300, .inr (.inl f41))), (q20, .inr (8, [w32, w33, w34, w35, .int 0, w37, w38])), (q21, .inr (7, [w22, .ref q46, w24, .ref q44, .ref q40, .ref q39, w28, w29, w30, w31])), (q17, .inl (g.2 3, 10, .inr (.inr (.inr (.inr f18))))), (q13, .inr (10, [.ref q17, .int 0, w16])), (q1, .inr (11, [.ref q13, w3, .ref q21, w5, w6, w7, w8, w9, .int 0, w11, w12]))] sz) := by
  refine ofN (by decide) (Nat.le_of_ble_eq_true rfl) rfl ?_
  intro p e s m args below meth c A ls hAe hsz hx hb hml hr hlocks hin hown hE hP hD hA hS hl
  have hown : s.vm.findClass RX9 = some m.cls := hown
  refine lv_aload_n hx hb dX9_count_0 rfl (lv_at hl 0 rfl) ?_
  refine gf_RX9_12 hx hb hown hE hP 9 rfl rfl dX9_count_1 ?_
  refine g_r (wr := [(q46, .inl (g.2 0, 300, .inl f45)), (q44, .inl (g.2 0, 8, .inl f45)), (q43, .inl (g.2 1, 300, .inr (.inl f41))), (q39, .inr (3, [.ref q43])), (q40, .inl (g.2 1, 300, .inr (.inl f41))), (q20, .inr (8, [w32, w33, w34, w35, .int 0, w37, w38])), (q21, .inr (7, [w22, .ref q46, w24, .ref q44, .ref q40, .ref q39, w28, w29, w30, w31])), (q1, .inr (11, [.ref q13, w3, .ref q21, w5, w6, w7, w8, w9, .int 0, w11, w12]))]) (rV (rest := []) hx hb hml hown hE hP hD 8 rfl rfl (c71_X8_current l g q13 q17 q20 w16 f18 (hf19) s.heap.size) (kV_X8_current hE (e290 hE) rfl rfl ⟨(Nat.le_of_ble_eq_true rfl), (Nat.le_of_ble_eq_true rfl)⟩) [7, 8] rfl (by decide) rfl hl.1 rfl (lv_room (Nat.le_of_ble_eq_true rfl)) dX9_count_4 ⟨(Nat.le_of_ble_eq_true rfl), (Nat.le_of_ble_eq_true rfl)⟩) hP hD hS hA [7, 8] [0, 1, 2, 3, 4, 5, 6, 9] rfl rfl (by decide) (by decide) (fun u1 H locs hP hD hS => ?_)
  have hP : va_P g.1 vwCl [(q46, .inl (g.2 0, 300, .inl f45)), (q44, .inl (g.2 0, 8, .inl f45)), (q43, .inl (g.2 1, 300, .inr (.inl f41))), (q39, .inr (3, [.ref q43])), (q40, .inl (g.2 1, 300, .inr (.inl f41))), (q20, .inr (8, [w32, w33, w34, w35, .int 0, w37, w38])), (q21, .inr (7, [w22, .ref q46, w24, .ref q44, .ref q40, .ref q39, w28, w29, w30, w31])), (q1, .inr (11, [.ref q13, w3, .ref q21, w5, w6, w7, w8, w9, .int 0, w11, w12])), (q17, .inl (g.2 3, 10, .inr (.inr (.inr (.inr f18))))), (q13, .inr (10, [.ref q17, .int 0, w16]))] H := hP
  have hD : va_D A [(q46, .inl (g.2 0, 300, .inl f45)), (q44, .inl (g.2 0, 8, .inl f45)), (q43, .inl (g.2 1, 300, .inr (.inl f41))), (q39, .inr (3, [.ref q43])), (q40, .inl (g.2 1, 300, .inr (.inl f41))), (q20, .inr (8, [w32, w33, w34, w35, .int 0, w37, w38])), (q21, .inr (7, [w22, .ref q46, w24, .ref q44, .ref q40, .ref q39, w28, w29, w30, w31])), (q1, .inr (11, [.ref q13, w3, .ref q21, w5, w6, w7, w8, w9, .int 0, w11, w12])), (q17, .inl (g.2 3, 10, .inr (.inr (.inr (.inr f18))))), (q13, .inr (10, [.ref q17, .int 0, w16]))] := hD
  refine lv_astore_n (lv' := [(2, .ref q20), (0, .ref q1), (1, .int 1)]) hx hb dX9_count_7 rfl hl (by decide) rfl (fun ls hl => ?_)
  refine lv_iload_n hx hb dX9_count_8 rfl (lv_at hl 2 rfl) ?_
  refine lv_tableIn (tgt := 65) hx hb dX9_count_9 (by decide) (by decide) rfl (by decide) ?_
  refine lv_aload_n hx hb dX9_count_65 rfl (lv_at hl 1 rfl) ?_
  refine g_r (wr := []) (rV (rest := []) hx hb hml hown hE hP hD 7 rfl rfl (c1638_X9_upToDateScore l g q1 q13 q17 q20 q21 q39 q40 q43 q44 q46 w3 w5 w6 w7 w8 w9 w11 w12 w16 w22 w24 w28 w29 w30 w31 w32 w33 w34 w35 w37 w38 f18 f41 f45 (hf19) H.size) (kV_X9_upToDateScore hE (e318 hE) rfl rfl ⟨(Nat.le_of_ble_eq_true rfl), (Nat.le_of_ble_eq_true rfl)⟩) [0, 1, 2, 3, 4, 5, 6, 8, 9, 7] rfl (by decide) rfl hl.1 rfl (lv_room (Nat.le_of_ble_eq_true rfl)) dX9_count_66 ⟨(Nat.le_of_ble_eq_true rfl), (Nat.le_of_ble_eq_true rfl)⟩) hP hD hS hA [0, 1, 2, 3, 4, 5, 6, 8, 9, 7] [] rfl rfl (by decide) (by decide) (fun u2 H locs hP hD hS => ?_)
  have hP : va_P g.1 vwCl [(q1, .inr (11, [.ref q13, w3, .ref q21, w5, w6, w7, w8, w9, .int 1, w11, w12])), (q17, .inl (g.2 3, 10, .inr (.inr (.inr (.inr f18))))), (q13, .inr (10, [.ref q17, .int 0, w16])), (q20, .inr (8, [w32, w33, w34, w35, .int 0, w37, w38])), (q21, .inr (7, [w22, .ref q46, w24, .ref q44, .ref q40, .ref q39, .int 0, .int 0, .int 0, .int 0])), (q44, .inl (g.2 0, 8, .inl (fillF 8 (-1) f45))), (q46, .inl (g.2 0, 300, .inl (fillF 300 (-1) f45))), (q43, .inl (g.2 1, 300, .inr (.inl f41))), (q39, .inr (3, [.ref q43])), (q40, .inl (g.2 1, 300, .inr (.inl f41)))] H := hP
  have hD : va_D A [(q1, .inr (11, [.ref q13, w3, .ref q21, w5, w6, w7, w8, w9, .int 1, w11, w12])), (q17, .inl (g.2 3, 10, .inr (.inr (.inr (.inr f18))))), (q13, .inr (10, [.ref q17, .int 0, w16])), (q20, .inr (8, [w32, w33, w34, w35, .int 0, w37, w38])), (q21, .inr (7, [w22, .ref q46, w24, .ref q44, .ref q40, .ref q39, .int 0, .int 0, .int 0, .int 0])), (q44, .inl (g.2 0, 8, .inl (fillF 8 (-1) f45))), (q46, .inl (g.2 0, 300, .inl (fillF 300 (-1) f45))), (q43, .inl (g.2 1, 300, .inr (.inl f41))), (q39, .inr (3, [.ref q43])), (q40, .inl (g.2 1, 300, .inr (.inl f41)))] := hD
  refine g_i (wr := [(q1, .inr (11, [.ref q13, w3, .ref q21, w5, w6, w7, w8, w9, .int 1, w11, w12])), (q17, .inl (g.2 3, 10, .inr (.inr (.inr (.inr f18))))), (q13, .inr (10, [.ref q17, .int 0, w16])), (q20, .inr (8, [w32, w33, w34, w35, .int 0, w37, w38])), (q44, .inl (g.2 0, 8, .inl (fillF 8 (-1) f45))), (q46, .inl (g.2 0, 300, .inl (fillF 300 (-1) f45))), (q43, .inl (g.2 1, 300, .inr (.inl f41))), (q39, .inr (3, [.ref q43])), (q40, .inl (g.2 1, 300, .inr (.inl f41)))]) (rV (rest := []) hx hb hml hown hE hP hD 4 rfl rfl (c1639_X5_noteCount l g q21 w22 (.ref q46) w24 (.ref q44) (.ref q40) (.ref q39) (.int 0) (.int 0) (.int 0) H.size) (kV_X5_noteCount hE (e856 hE) rfl rfl ⟨(Nat.le_of_ble_eq_true rfl), (Nat.le_of_ble_eq_true rfl)⟩) [4] rfl (by decide) rfl hl.1 rfl (lv_room (Nat.le_of_ble_eq_true rfl)) dX9_count_69 ⟨(Nat.le_of_ble_eq_true rfl), (Nat.le_of_ble_eq_true rfl)⟩) hP hD hS hA [4] [0, 1, 2, 3, 5, 6, 7, 8, 9] rfl rfl (by decide) (by decide) (fun u3 H locs hP hD hS => ?_)
  have hP : va_P g.1 vwCl [(q1, .inr (11, [.ref q13, w3, .ref q21, w5, w6, w7, w8, w9, .int 1, w11, w12])), (q17, .inl (g.2 3, 10, .inr (.inr (.inr (.inr f18))))), (q13, .inr (10, [.ref q17, .int 0, w16])), (q20, .inr (8, [w32, w33, w34, w35, .int 0, w37, w38])), (q44, .inl (g.2 0, 8, .inl (fillF 8 (-1) f45))), (q46, .inl (g.2 0, 300, .inl (fillF 300 (-1) f45))), (q43, .inl (g.2 1, 300, .inr (.inl f41))), (q39, .inr (3, [.ref q43])), (q40, .inl (g.2 1, 300, .inr (.inl f41))), (q21, .inr (7, [w22, .ref q46, w24, .ref q44, .ref q40, .ref q39, .int 0, .int 0, .int 0, .int 0]))] H := hP
  have hD : va_D A [(q1, .inr (11, [.ref q13, w3, .ref q21, w5, w6, w7, w8, w9, .int 1, w11, w12])), (q17, .inl (g.2 3, 10, .inr (.inr (.inr (.inr f18))))), (q13, .inr (10, [.ref q17, .int 0, w16])), (q20, .inr (8, [w32, w33, w34, w35, .int 0, w37, w38])), (q44, .inl (g.2 0, 8, .inl (fillF 8 (-1) f45))), (q46, .inl (g.2 0, 300, .inl (fillF 300 (-1) f45))), (q43, .inl (g.2 1, 300, .inr (.inl f41))), (q39, .inr (3, [.ref q43])), (q40, .inl (g.2 1, 300, .inr (.inl f41))), (q21, .inr (7, [w22, .ref q46, w24, .ref q44, .ref q40, .ref q39, .int 0, .int 0, .int 0, .int 0]))] := hD
  exact x_zret hx hb hr rfl rfl hlocks hP hD hS hAe hsz (Nat.le_of_ble_eq_true rfl) (Nat.le_of_ble_eq_true rfl) (fun _ => 0) [0, 1, 2, 3, 4, 5, 6, 7, 8, 9] (by decide) rfl dX9_count_72

set_option maxHeartbeats 4000000 in
set_option maxRecDepth 100000 in
theorem c1641_L_count (l : Launch) (g : gG) (hlx : l.stackTraces = false) (q1 q2 q14 q18 q21 q22 q40 q41 q44 q45 q47 : Nat) (w4 w6 w7 w8 w9 w10 w12 w13 w17 w23 w25 w29 w30 w31 w32 w33 w34 w35 w36 w38 w39 : Value) (f19 : Nat → Option Nat) (f42 : Nat → Int64) (f46 : Nat → Int32) (hf20 : f19 0 = some q21) (sz : Nat) : Met l yL_count [Cond.codeWith yL_count cL_count 4 (some .int) [(0, 9, 12, 15)]] ({ frames := 5, cells := 0, slots := 0, locals := 116 } : Room) (va_Pc [.ref q1, .int 1, .ref q2] (PZ g sz [(q2, .inl (g.2 1, 1, .inr (.inl f42))), (q47, .inl (g.2 0, 300, .inl f46)), (q45, .inl (g.2 0, 8, .inl f46)), (q44, .inl (g.2 1, 300, .inr (.inl f42))), (q40, .inr (3, [.ref q44])), (q41, .inl (g.2 1, 300, .inr (.inl f42))), (q21, .inr (8, [w33, w34, w35, w36, .int 0, w38, w39])), (q22, .inr (7, [w23, .ref q47, w25, .ref q45, .ref q41, .ref q40, w29, w30, w31, w32])), (q18, .inl (g.2 3, 10, .inr (.inr (.inr (.inr f19))))), (q14, .inr (10, [.ref q18, .int 0, w17])), (q1, .inr (11, [.ref q14, w4, .ref q22, w6, w7, w8, w9, w10, .int 0, w12, w13]))])) (QI g [(q2, .inl (g.2 1, 1, .inr (.inl f42))), (q47, .inl (g.2 0, 300, .inl f46)), (q45, .inl (g.2 0, 8, .inl f46)), (q44, .inl (g.2 1, 300, .inr (.inl f42))), (q40, .inr (3, [.ref q44])), (q41, .inl (g.2 1, 300, .inr (.inl f42))), (q21, .inr (8, [w33, w34, w35, w36, .int 0, w38, w39])), (q22, .inr (7, [w23, .ref q47, w25, .ref q45, .ref q41, .ref q40, w29, w30, w31, w32])), (q18, .inl (g.2 3, 10, .inr (.inr (.inr (.inr f19))))), (q14, .inr (10, [.ref q18, .int 0, w17])), (q1, .inr (11, [.ref q14, w4, .ref q22, w6, w7, w8, w9, w10, .int 0, w12, w13]))] sz 0 (fun _ => [(q2, .inl (g.2 1, 1, .inr (.inl (vp_updL f42 0 0))))])) 0 0 (va_A [(q2, .inl (g.2 1, 1, .inr (.inl f42))), (q47, .inl (g.2 0, 300, .inl f46)), (q45, .inl (g.2 0, 8, .inl f46)), (q44, .inl (g.2 1, 300, .inr (.inl f42))), (q40, .inr (3, [.ref q44])), (q41, .inl (g.2 1, 300, .inr (.inl f42))), (q21, .inr (8, [w33, w34, w35, w36, .int 0, w38, w39])), (q22, .inr (7, [w23, .ref q47, w25, .ref q45, .ref q41, .ref q40, w29, w30, w31, w32])), (q18, .inl (g.2 3, 10, .inr (.inr (.inr (.inr f19))))), (q14, .inr (10, [.ref q18, .int 0, w17])), (q1, .inr (11, [.ref q14, w4, .ref q22, w6, w7, w8, w9, w10, .int 0, w12, w13]))] sz) := by
  refine ofH (by decide) (Nat.le_of_ble_eq_true rfl) rfl ?_
  intro p e s m args below meth c A ls hAe hsz hx hb hml hr hlocks hin hown hE hP hD hA hS hl htb hz
  have hown : s.vm.findClass RL = some m.cls := hown
  refine lv_aload_n hx hb dL_count_0 rfl (lv_at hl 2 rfl) ?_
  refine lv_iconst (v := 0) hx hb dL_count_1 (by decide) ?_
  refine lv_aload_n hx hb dL_count_2 rfl (lv_at hl 0 rfl) ?_
  refine lv_iload_n hx hb dL_count_3 rfl (lv_at hl 1 rfl) ?_
  refine g_i (wr := [(q2, .inl (g.2 1, 1, .inr (.inl f42)))]) (rV (rest := [.int 0, .ref q2]) hx hb hml hown hE hP hD 10 rfl rfl (c1640_X9_count l g q1 q14 q18 q21 q22 q40 q41 q44 q45 q47 w4 w6 w7 w8 w9 w10 w12 w13 w17 w23 w25 w29 w30 w31 w32 w33 w34 w35 w36 w38 w39 f19 f42 f46 (hf20) s.heap.size) (kV_X9_count hE (e852 hE) rfl rfl ⟨(Nat.le_of_ble_eq_true rfl), (Nat.le_of_ble_eq_true rfl)⟩) [1, 2, 3, 4, 5, 6, 7, 8, 9, 10] rfl (by decide) rfl hl.1 rfl (lv_room (Nat.le_of_ble_eq_true rfl)) dL_count_4 ⟨(Nat.le_of_ble_eq_true rfl), (Nat.le_of_ble_eq_true rfl)⟩) hP hD hS hA [1, 2, 3, 4, 5, 6, 7, 8, 9, 10] [0] rfl rfl (by decide) (by decide) (fun u1 H locs hP hD hS => ?_)
  have hP : va_P g.1 vwCl [(q2, .inl (g.2 1, 1, .inr (.inl f42))), (q1, .inr (11, [.ref q14, w4, .ref q22, w6, w7, w8, w9, w10, .int 1, w12, w13])), (q18, .inl (g.2 3, 10, .inr (.inr (.inr (.inr f19))))), (q14, .inr (10, [.ref q18, .int 0, w17])), (q21, .inr (8, [w33, w34, w35, w36, .int 0, w38, w39])), (q45, .inl (g.2 0, 8, .inl (fillF 8 (-1) f46))), (q47, .inl (g.2 0, 300, .inl (fillF 300 (-1) f46))), (q44, .inl (g.2 1, 300, .inr (.inl f42))), (q40, .inr (3, [.ref q44])), (q41, .inl (g.2 1, 300, .inr (.inl f42))), (q22, .inr (7, [w23, .ref q47, w25, .ref q45, .ref q41, .ref q40, .int 0, .int 0, .int 0, .int 0]))] H := hP
  have hD : va_D A [(q2, .inl (g.2 1, 1, .inr (.inl f42))), (q1, .inr (11, [.ref q14, w4, .ref q22, w6, w7, w8, w9, w10, .int 1, w12, w13])), (q18, .inl (g.2 3, 10, .inr (.inr (.inr (.inr f19))))), (q14, .inr (10, [.ref q18, .int 0, w17])), (q21, .inr (8, [w33, w34, w35, w36, .int 0, w38, w39])), (q45, .inl (g.2 0, 8, .inl (fillF 8 (-1) f46))), (q47, .inl (g.2 0, 300, .inl (fillF 300 (-1) f46))), (q44, .inl (g.2 1, 300, .inr (.inl f42))), (q40, .inr (3, [.ref q44])), (q41, .inl (g.2 1, 300, .inr (.inl f42))), (q22, .inr (7, [w23, .ref q47, w25, .ref q45, .ref q41, .ref q40, .int 0, .int 0, .int 0, .int 0]))] := hD
  refine lv_i2l (v := 0) hx hb dL_count_7 (by decide) ?_
  refine x_last (ws' := [(q2, .inl (g.2 1, 1, .inr (.inl (vp_updL f42 0 0)))), (q1, .inr (11, [.ref q14, w4, .ref q22, w6, w7, w8, w9, w10, .int 1, w12, w13])), (q18, .inl (g.2 3, 10, .inr (.inr (.inr (.inr f19))))), (q14, .inr (10, [.ref q18, .int 0, w17])), (q21, .inr (8, [w33, w34, w35, w36, .int 0, w38, w39])), (q45, .inl (g.2 0, 8, .inl (fillF 8 (-1) f46))), (q47, .inl (g.2 0, 300, .inl (fillF 300 (-1) f46))), (q44, .inl (g.2 1, 300, .inr (.inl f42))), (q40, .inr (3, [.ref q44])), (q41, .inl (g.2 1, 300, .inr (.inl f42))), (q22, .inr (7, [w23, .ref q47, w25, .ref q45, .ref q41, .ref q40, .int 0, .int 0, .int 0, .int 0]))]) hx hb hE hP hD hS 0 rfl 0 (x_in (by decide)) (by decide) dL_count_8 rfl (fun H locs hP hD hS => ?_)
  refine lv_goto (tgt := 15) hx hb dL_count_9 (by decide) ?_
  refine lv_iconst (v := 0) hx hb dL_count_15 (by decide) ?_
  exact x_zret hx hb hr rfl rfl hlocks hP hD hS hAe hsz (Nat.le_of_ble_eq_true rfl) (Nat.le_of_ble_eq_true rfl) (fun _ => 0) [0] (by decide) rfl dL_count_16

set_option maxHeartbeats 4000000 in
set_option maxRecDepth 100000 in
theorem c1642_X10_in (l : Launch) (g : gG) (sz : Nat) : Met l yX10_in [Cond.code yX10_in cX10_in 3 (some .boolean)] ({ frames := 0, cells := 0, slots := 0, locals := 0 } : Room) (va_Pc [.int 1, .int 0, .int 8] (PX g sz [])) (QI g [] sz 1 (fun _ => [])) 0 0 (va_A [] sz) := by
  refine ofN (by decide) (Nat.le_of_ble_eq_true rfl) rfl ?_
  intro p e s m args below meth c A ls hAe hsz hx hb hml hr hlocks hin hown hE hP hD hA hS hl
  have hown : s.vm.findClass RX10 = some m.cls := hown
  refine lv_iload_n hx hb dX10_in_0 rfl (lv_at hl 0 rfl) ?_
  refine lv_iload_n hx hb dX10_in_1 rfl (lv_at hl 1 rfl) ?_
  refine lv_icmp_lt (tgt := 14) hx hb dX10_in_2 (by decide) (fun h => absurd h (by decide)) (fun _ => ?_)
  refine lv_iload_n hx hb dX10_in_5 rfl (lv_at hl 0 rfl) ?_
  refine lv_iload_n hx hb dX10_in_6 rfl (lv_at hl 2 rfl) ?_
  refine lv_icmp_gt (tgt := 14) hx hb dX10_in_7 (by decide) (fun h => absurd h (by decide)) (fun _ => ?_)
  refine lv_iconst (v := 1) hx hb dX10_in_10 (by decide) ?_
  refine lv_goto (tgt := 15) hx hb dX10_in_11 (by decide) ?_
  exact x_zret hx hb hr rfl rfl hlocks hP hD hS hAe hsz (Nat.le_of_ble_eq_true rfl) (Nat.le_of_ble_eq_true rfl) (fun _ => 0) [] (by decide) rfl dX10_in_15

set_option maxHeartbeats 4000000 in
set_option maxRecDepth 100000 in
theorem c1643_X10_count (l : Launch) (g : gG) (q1 q39 q40 q41 q42 : Nat) (w3 w4 w5 w6 w7 w8 w11 w12 w13 w14 w15 w16 w17 w18 w19 w20 w21 w22 w23 w24 w25 w26 w28 w29 w30 w31 w32 w33 w34 w35 w36 w37 w38 : Value) (f43 : Nat → Int32) (f53 : Nat → Int32) (hf44 : f43 0 = 0) (hf45 : f43 49 = 0) (hf46 : f43 98 = 0) (hf47 : f43 147 = 0) (hf48 : f43 196 = 0) (hf49 : f43 245 = 0) (hf50 : f43 294 = 0) (hf51 : f43 343 = 0) (hf52 : f43 392 = 0) (hf54 : f53 0 = 0) (hf55 : f53 1 = 0) (hf56 : f53 2 = 0) (hf57 : f53 3 = 0) (hf58 : f53 4 = 0) (hf59 : f53 5 = 0) (hf60 : f53 6 = 0) (hf61 : f53 7 = 0) (sz : Nat) : Met l yX10_count [Cond.code yX10_count cX10_count 6 (some .int)] ({ frames := 4, cells := 0, slots := 0, locals := 89 } : Room) (va_Pc [.ref q1, .int 1] (PX g sz [(q42, .inl (g.2 0, 8, .inl f53)), (q41, .inl (g.2 0, 8, .inl f53)), (q40, .inl (g.2 0, 8, .inl f53)), (q39, .inl (g.2 0, 497, .inl f43)), (q1, .inr (12, [.ref q39, w3, w4, w5, w6, w7, w8, .ref q40, .ref q41, w11, w12, w13, w14, w15, w16, w17, w18, w19, w20, w21, w22, w23, w24, w25, w26, .ref q42, w28, w29, w30, w31, w32, w33, w34, w35, w36, w37, w38]))])) (QI g [(q42, .inl (g.2 0, 8, .inl f53)), (q41, .inl (g.2 0, 8, .inl f53)), (q40, .inl (g.2 0, 8, .inl f53)), (q39, .inl (g.2 0, 497, .inl f43)), (q1, .inr (12, [.ref q39, w3, w4, w5, w6, w7, w8, .ref q40, .ref q41, w11, w12, w13, w14, w15, w16, w17, w18, w19, w20, w21, w22, w23, w24, w25, w26, .ref q42, w28, w29, w30, w31, w32, w33, w34, w35, w36, w37, w38]))] sz 0 (fun _ => [(q1, .inr (12, [.ref q39, w3, w4, w5, w6, w7, .int 0, .ref q40, .ref q41, w11, w12, w13, w14, w15, .int 0, w17, w18, w19, w20, w21, w22, w23, w24, w25, w26, .ref q42, w28, w29, w30, w31, w32, w33, w34, w35, w36, w37, w38]))])) 0 0 (va_A [(q42, .inl (g.2 0, 8, .inl f53)), (q41, .inl (g.2 0, 8, .inl f53)), (q40, .inl (g.2 0, 8, .inl f53)), (q39, .inl (g.2 0, 497, .inl f43)), (q1, .inr (12, [.ref q39, w3, w4, w5, w6, w7, w8, .ref q40, .ref q41, w11, w12, w13, w14, w15, w16, w17, w18, w19, w20, w21, w22, w23, w24, w25, w26, .ref q42, w28, w29, w30, w31, w32, w33, w34, w35, w36, w37, w38]))] sz) := by
  refine ofN (by decide) (Nat.le_of_ble_eq_true rfl) rfl ?_
  intro p e s m args below meth c A ls hAe hsz hx hb hml hr hlocks hin hown hE hP hD hA hS hl
  have hown : s.vm.findClass RX10 = some m.cls := hown
  refine lv_aload_n hx hb dX10_count_0 rfl (lv_at hl 0 rfl) ?_
  refine lv_iconst (v := 0) hx hb dX10_count_1 (by decide) ?_
  refine pf_RX10_86 (ws' := [(q42, .inl (g.2 0, 8, .inl f53)), (q41, .inl (g.2 0, 8, .inl f53)), (q40, .inl (g.2 0, 8, .inl f53)), (q39, .inl (g.2 0, 497, .inl f43)), (q1, .inr (12, [.ref q39, w3, w4, w5, w6, w7, .int 0, .ref q40, .ref q41, w11, w12, w13, w14, w15, w16, w17, w18, w19, w20, w21, w22, w23, w24, w25, w26, .ref q42, w28, w29, w30, w31, w32, w33, w34, w35, w36, w37, w38]))]) hx hb hown hE hP hD hS 4 rfl rfl rfl (Nat.le_of_ble_eq_true rfl) dX10_count_2 rfl (fun H locs hP hD hS => ?_)
  refine lv_iload_n hx hb dX10_count_5 rfl (lv_at hl 1 rfl) ?_
  refine lv_iconst (v := 0) hx hb dX10_count_6 (by decide) ?_
  refine lv_bipush (v := 8) hx hb dX10_count_7 (by decide) ?_
  refine g0_i (rS (rest := []) hx hb hml hown hE hP hD (c1642_X10_in l g H.size) (kS_X10_in hE (e1431 hE) rfl rfl ⟨(Nat.le_of_ble_eq_true rfl), (Nat.le_of_ble_eq_true rfl)⟩) [] rfl (by decide) rfl hl.1 rfl (lv_room (Nat.le_of_ble_eq_true rfl)) dX10_count_9 ⟨(Nat.le_of_ble_eq_true rfl), (Nat.le_of_ble_eq_true rfl)⟩) hP hD hS hA (fun u9 H locs hP hS => ?_)
  refine lv_if_ne (tgt := 21) hx hb dX10_count_12 (by decide) (fun _ => ?_) (fun h => absurd h (by decide))
  refine lv_aload_n hx hb dX10_count_21 rfl (lv_at hl 0 rfl) ?_
  refine g_v (wr := []) (rV (rest := []) hx hb hml hown hE hP hD 4 rfl rfl (c1632_X10_layNotes l g q1 q39 q40 q41 q42 w3 w4 w5 w6 w7 (.int 0) w11 w12 w13 w14 w15 w16 w17 w18 w19 w20 w21 w22 w23 w24 w25 w26 w28 w29 w30 w31 w32 w33 w34 w35 w36 w37 w38 f43 f53 (hf44) (hf45) (hf46) (hf47) (hf48) (hf49) (hf50) (hf51) (hf54) (hf55) (hf56) (hf57) (hf58) (hf59) (hf60) (hf61) (hf52) H.size) (kV_X10_layNotes hE (e1543 hE) rfl rfl ⟨(Nat.le_of_ble_eq_true rfl), (Nat.le_of_ble_eq_true rfl)⟩) [0, 1, 2, 3, 4] rfl (by decide) rfl hl.1 rfl (lv_room (Nat.le_of_ble_eq_true rfl)) dX10_count_22 ⟨(Nat.le_of_ble_eq_true rfl), (Nat.le_of_ble_eq_true rfl)⟩) hP hD hS hA [0, 1, 2, 3, 4] [] rfl rfl (by decide) (by decide) (fun u2 H locs hP hD hS => ?_)
  have hP : va_P g.1 vwCl [(q41, .inl (g.2 0, 8, .inl f53)), (q40, .inl (g.2 0, 8, .inl f53)), (q39, .inl (g.2 0, 497, .inl f43)), (q42, .inl (g.2 0, 8, .inl (upd (upd (upd (upd (upd (upd (upd (upd f53 0 (-1)) 1 (-1)) 2 (-1)) 3 (-1)) 4 (-1)) 5 (-1)) 6 (-1)) 7 (-1)))), (q1, .inr (12, [.ref q39, w3, w4, w5, w6, w7, .int 0, .ref q40, .ref q41, w11, w12, w13, w14, w15, .int 0, w17, w18, w19, w20, w21, w22, w23, w24, w25, w26, .ref q42, w28, w29, w30, w31, w32, w33, w34, w35, w36, w37, w38]))] H := hP
  have hD : va_D A [(q41, .inl (g.2 0, 8, .inl f53)), (q40, .inl (g.2 0, 8, .inl f53)), (q39, .inl (g.2 0, 497, .inl f43)), (q42, .inl (g.2 0, 8, .inl (upd (upd (upd (upd (upd (upd (upd (upd f53 0 (-1)) 1 (-1)) 2 (-1)) 3 (-1)) 4 (-1)) 5 (-1)) 6 (-1)) 7 (-1)))), (q1, .inr (12, [.ref q39, w3, w4, w5, w6, w7, .int 0, .ref q40, .ref q41, w11, w12, w13, w14, w15, .int 0, w17, w18, w19, w20, w21, w22, w23, w24, w25, w26, .ref q42, w28, w29, w30, w31, w32, w33, w34, w35, w36, w37, w38]))] := hD
  refine lv_iconst (v := 0) hx hb dX10_count_25 (by decide) ?_
  refine lv_istore_n (lv' := [(2, .int 0), (0, .ref q1), (1, .int 1)]) hx hb dX10_count_26 rfl hl (by decide) rfl (fun ls hl => ?_)
  refine lv_iconst (v := 0) hx hb dX10_count_27 (by decide) ?_
  refine lv_istore_n (lv' := [(3, .int 0), (2, .int 0), (0, .ref q1), (1, .int 1)]) hx hb dX10_count_28 rfl hl (by decide) rfl (fun ls hl => ?_)
  refine lv_iconst (v := 0) hx hb dX10_count_29 (by decide) ?_
  refine lv_istore (lv' := [(4, .int 0), (3, .int 0), (2, .int 0), (0, .ref q1), (1, .int 1)]) hx hb dX10_count_30 hl (by decide) rfl (fun ls hl => ?_)
  refine lv_iconst (v := 0) hx hb dX10_count_32 (by decide) ?_
  refine lv_istore (lv' := [(5, .int 0), (4, .int 0), (3, .int 0), (2, .int 0), (0, .ref q1), (1, .int 1)]) hx hb dX10_count_33 hl (by decide) rfl (fun ls hl => ?_)
  refine lv_iload hx hb dX10_count_35 (lv_at hl 0 rfl) ?_
  refine lv_aload_n hx hb dX10_count_37 rfl (lv_at hl 4 rfl) ?_
  refine gf_RX10_176 hx hb hown hE hP 4 rfl rfl dX10_count_38 ?_
  refine lv_icmp_ge (tgt := 100) hx hb dX10_count_41 (by decide) (fun _ => ?_) (fun h => absurd (by decide) h)
  refine lv_iload_n hx hb dX10_count_100 rfl (lv_at hl 5 rfl) ?_
  refine lv_tableIn (tgt := 157) hx hb dX10_count_101 (by decide) (by decide) rfl (by decide) ?_
  refine lv_aload_n hx hb dX10_count_157 rfl (lv_at hl 4 rfl) ?_
  refine gf_RX10_176 hx hb hown hE hP 4 rfl rfl dX10_count_158 ?_
  exact x_zret hx hb hr rfl rfl hlocks hP hD hS hAe hsz (Nat.le_of_ble_eq_true rfl) (Nat.le_of_ble_eq_true rfl) (fun _ => 0) [4] (by decide) rfl dX10_count_161

set_option maxHeartbeats 4000000 in
set_option maxRecDepth 100000 in
theorem c1644_X5_droppedCount (l : Launch) (g : gG) (q1 : Nat) (w2 w3 w4 w5 w6 w7 w8 w10 w11 : Value) (sz : Nat) : Met l yX5_droppedCount [Cond.code yX5_droppedCount cX5_droppedCount 1 (some .int)] ({ frames := 0, cells := 0, slots := 0, locals := 0 } : Room) (va_Pc [.ref q1] (PX g sz [(q1, .inr (7, [w2, w3, w4, w5, w6, w7, w8, .int 0, w10, w11]))])) (QI g [(q1, .inr (7, [w2, w3, w4, w5, w6, w7, w8, .int 0, w10, w11]))] sz 0 (fun _ => [(q1, .inr (7, [w2, w3, w4, w5, w6, w7, w8, .int 0, w10, w11]))])) 0 0 (va_A [(q1, .inr (7, [w2, w3, w4, w5, w6, w7, w8, .int 0, w10, w11]))] sz) := by
  refine ofN (by decide) (Nat.le_of_ble_eq_true rfl) rfl ?_
  intro p e s m args below meth c A ls hAe hsz hx hb hml hr hlocks hin hown hE hP hD hA hS hl
  have hown : s.vm.findClass RX5 = some m.cls := hown
  refine lv_aload_n hx hb dX5_droppedCount_0 rfl (lv_at hl 0 rfl) ?_
  refine gf_RX5_41 hx hb hown hE hP 0 rfl rfl dX5_droppedCount_1 ?_
  exact x_zret hx hb hr rfl rfl hlocks hP hD hS hAe hsz (Nat.le_of_ble_eq_true rfl) (Nat.le_of_ble_eq_true rfl) (fun _ => 0) [0] (by decide) rfl dX5_droppedCount_4

set_option maxHeartbeats 4000000 in
set_option maxRecDepth 100000 in
theorem c1645_X9_count (l : Launch) (g : gG) (q1 q13 q17 q20 q21 q32 q33 q34 q35 q45 : Nat) (w3 w5 w6 w7 w8 w9 w11 w12 w16 w22 w24 w28 w29 w30 w31 w36 w37 w38 w39 w41 w42 : Value) (f18 : Nat → Option Nat) (f43 : Nat → Int64) (f46 : Nat → Int32) (hf19 : f18 0 = some q20) (sz : Nat) : Met l yX9_count [Cond.code yX9_count cX9_count 3 (some .int)] ({ frames := 4, cells := 0, slots := 0, locals := 94 } : Room) (va_Pc [.ref q1, .int 2] (PX g sz [(q32, .inl (g.2 0, 300, .inl f46)), (q33, .inl (g.2 0, 8, .inl f46)), (q45, .inl (g.2 1, 300, .inr (.inl f43))), (q35, .inr (3, [.ref q45])), (q34, .inl (g.2 1, 300, .inr (.inl f43))), (q20, .inr (8, [w36, w37, w38, w39, .int 0, w41, w42])), (q21, .inr (7, [w22, .ref q32, w24, .ref q33, .ref q34, .ref q35, w28, w29, w30, w31])), (q17, .inl (g.2 3, 10, .inr (.inr (.inr (.inr f18))))), (q13, .inr (10, [.ref q17, .int 0, w16])), (q1, .inr (11, [.ref q13, w3, .ref q21, w5, w6, w7, w8, w9, .int 0, w11, w12]))])) (QI g [(q32, .inl (g.2 0, 300, .inl f46)), (q33, .inl (g.2 0, 8, .inl f46)), (q45, .inl (g.2 1, 300, .inr (.inl f43))), (q35, .inr (3, [.ref q45])), (q34, .inl (g.2 1, 300, .inr (.inl f43))), (q20, .inr (8, [w36, w37, w38, w39, .int 0, w41, w42])), (q21, .inr (7, [w22, .ref q32, w24, .ref q33, .ref q34, .ref q35, w28, w29, w30, w31])), (q17, .inl (g.2 3, 10, .inr (.inr (.inr (.inr f18))))), (q13, .inr (10, [.ref q17, .int 0, w16])), (q1, .inr (11, [.ref q13, w3, .ref q21, w5, w6, w7, w8, w9, .int 0, w11, w12]))] sz 0 (fun _ => [(q1, .inr (11, [.ref q13, w3, .ref q21, w5, w6, w7, w8, w9, .int 1, w11, w12])), (q17, .inl (g.2 3, 10, .inr (.inr (.inr (.inr f18))))), (q13, .inr (10, [.ref q17, .int 0, w16])), (q20, .inr (8, [w36, w37, w38, w39, .int 0, w41, w42])), (q33, .inl (g.2 0, 8, .inl (fillF 8 (-1) f46))), (q32, .inl (g.2 0, 300, .inl (fillF 300 (-1) f46))), (q45, .inl (g.2 1, 300, .inr (.inl f43))), (q35, .inr (3, [.ref q45])), (q34, .inl (g.2 1, 300, .inr (.inl f43))), (q21, .inr (7, [w22, .ref q32, w24, .ref q33, .ref q34, .ref q35, .int 0, .int 0, .int 0, .int 0]))])) 0 0 (va_A [(q32, .inl (g.2 0, 300, .inl f46)), (q33, .inl (g.2 0, 8, .inl f46)), (q45, .inl (g.2 1, 300, .inr (.inl f43))), (q35, .inr (3, [.ref q45])), (q34, .inl (g.2 1, 300, .inr (.inl f43))), (q20, .inr (8, [w36, w37, w38, w39, .int 0, w41, w42])), (q21, .inr (7, [w22, .ref q32, w24, .ref q33, .ref q34, .ref q35, w28, w29, w30, w31])), (q17, .inl (g.2 3, 10, .inr (.inr (.inr (.inr f18))))), (q13, .inr (10, [.ref q17, .int 0, w16])), (q1, .inr (11, [.ref q13, w3, .ref q21, w5, w6, w7, w8, w9, .int 0, w11, w12]))] sz) := by
  refine ofN (by decide) (Nat.le_of_ble_eq_true rfl) rfl ?_
  intro p e s m args below meth c A ls hAe hsz hx hb hml hr hlocks hin hown hE hP hD hA hS hl
  have hown : s.vm.findClass RX9 = some m.cls := hown
  refine lv_aload_n hx hb dX9_count_0 rfl (lv_at hl 0 rfl) ?_
  refine gf_RX9_12 hx hb hown hE hP 9 rfl rfl dX9_count_1 ?_
  refine g_r (wr := [(q32, .inl (g.2 0, 300, .inl f46)), (q33, .inl (g.2 0, 8, .inl f46)), (q45, .inl (g.2 1, 300, .inr (.inl f43))), (q35, .inr (3, [.ref q45])), (q34, .inl (g.2 1, 300, .inr (.inl f43))), (q20, .inr (8, [w36, w37, w38, w39, .int 0, w41, w42])), (q21, .inr (7, [w22, .ref q32, w24, .ref q33, .ref q34, .ref q35, w28, w29, w30, w31])), (q1, .inr (11, [.ref q13, w3, .ref q21, w5, w6, w7, w8, w9, .int 0, w11, w12]))]) (rV (rest := []) hx hb hml hown hE hP hD 8 rfl rfl (c71_X8_current l g q13 q17 q20 w16 f18 (hf19) s.heap.size) (kV_X8_current hE (e290 hE) rfl rfl ⟨(Nat.le_of_ble_eq_true rfl), (Nat.le_of_ble_eq_true rfl)⟩) [7, 8] rfl (by decide) rfl hl.1 rfl (lv_room (Nat.le_of_ble_eq_true rfl)) dX9_count_4 ⟨(Nat.le_of_ble_eq_true rfl), (Nat.le_of_ble_eq_true rfl)⟩) hP hD hS hA [7, 8] [0, 1, 2, 3, 4, 5, 6, 9] rfl rfl (by decide) (by decide) (fun u1 H locs hP hD hS => ?_)
  have hP : va_P g.1 vwCl [(q32, .inl (g.2 0, 300, .inl f46)), (q33, .inl (g.2 0, 8, .inl f46)), (q45, .inl (g.2 1, 300, .inr (.inl f43))), (q35, .inr (3, [.ref q45])), (q34, .inl (g.2 1, 300, .inr (.inl f43))), (q20, .inr (8, [w36, w37, w38, w39, .int 0, w41, w42])), (q21, .inr (7, [w22, .ref q32, w24, .ref q33, .ref q34, .ref q35, w28, w29, w30, w31])), (q1, .inr (11, [.ref q13, w3, .ref q21, w5, w6, w7, w8, w9, .int 0, w11, w12])), (q17, .inl (g.2 3, 10, .inr (.inr (.inr (.inr f18))))), (q13, .inr (10, [.ref q17, .int 0, w16]))] H := hP
  have hD : va_D A [(q32, .inl (g.2 0, 300, .inl f46)), (q33, .inl (g.2 0, 8, .inl f46)), (q45, .inl (g.2 1, 300, .inr (.inl f43))), (q35, .inr (3, [.ref q45])), (q34, .inl (g.2 1, 300, .inr (.inl f43))), (q20, .inr (8, [w36, w37, w38, w39, .int 0, w41, w42])), (q21, .inr (7, [w22, .ref q32, w24, .ref q33, .ref q34, .ref q35, w28, w29, w30, w31])), (q1, .inr (11, [.ref q13, w3, .ref q21, w5, w6, w7, w8, w9, .int 0, w11, w12])), (q17, .inl (g.2 3, 10, .inr (.inr (.inr (.inr f18))))), (q13, .inr (10, [.ref q17, .int 0, w16]))] := hD
  refine lv_astore_n (lv' := [(2, .ref q20), (0, .ref q1), (1, .int 2)]) hx hb dX9_count_7 rfl hl (by decide) rfl (fun ls hl => ?_)
  refine lv_iload_n hx hb dX9_count_8 rfl (lv_at hl 2 rfl) ?_
  refine lv_tableIn (tgt := 73) hx hb dX9_count_9 (by decide) (by decide) rfl (by decide) ?_
  refine lv_aload_n hx hb dX9_count_73 rfl (lv_at hl 1 rfl) ?_
  refine g_r (wr := []) (rV (rest := []) hx hb hml hown hE hP hD 7 rfl rfl (c1638_X9_upToDateScore l g q1 q13 q17 q20 q21 q35 q34 q45 q33 q32 w3 w5 w6 w7 w8 w9 w11 w12 w16 w22 w24 w28 w29 w30 w31 w36 w37 w38 w39 w41 w42 f18 f43 f46 (hf19) H.size) (kV_X9_upToDateScore hE (e318 hE) rfl rfl ⟨(Nat.le_of_ble_eq_true rfl), (Nat.le_of_ble_eq_true rfl)⟩) [0, 1, 2, 3, 4, 5, 6, 8, 9, 7] rfl (by decide) rfl hl.1 rfl (lv_room (Nat.le_of_ble_eq_true rfl)) dX9_count_74 ⟨(Nat.le_of_ble_eq_true rfl), (Nat.le_of_ble_eq_true rfl)⟩) hP hD hS hA [0, 1, 2, 3, 4, 5, 6, 8, 9, 7] [] rfl rfl (by decide) (by decide) (fun u2 H locs hP hD hS => ?_)
  have hP : va_P g.1 vwCl [(q1, .inr (11, [.ref q13, w3, .ref q21, w5, w6, w7, w8, w9, .int 1, w11, w12])), (q17, .inl (g.2 3, 10, .inr (.inr (.inr (.inr f18))))), (q13, .inr (10, [.ref q17, .int 0, w16])), (q20, .inr (8, [w36, w37, w38, w39, .int 0, w41, w42])), (q21, .inr (7, [w22, .ref q32, w24, .ref q33, .ref q34, .ref q35, .int 0, .int 0, .int 0, .int 0])), (q33, .inl (g.2 0, 8, .inl (fillF 8 (-1) f46))), (q32, .inl (g.2 0, 300, .inl (fillF 300 (-1) f46))), (q45, .inl (g.2 1, 300, .inr (.inl f43))), (q35, .inr (3, [.ref q45])), (q34, .inl (g.2 1, 300, .inr (.inl f43)))] H := hP
  have hD : va_D A [(q1, .inr (11, [.ref q13, w3, .ref q21, w5, w6, w7, w8, w9, .int 1, w11, w12])), (q17, .inl (g.2 3, 10, .inr (.inr (.inr (.inr f18))))), (q13, .inr (10, [.ref q17, .int 0, w16])), (q20, .inr (8, [w36, w37, w38, w39, .int 0, w41, w42])), (q21, .inr (7, [w22, .ref q32, w24, .ref q33, .ref q34, .ref q35, .int 0, .int 0, .int 0, .int 0])), (q33, .inl (g.2 0, 8, .inl (fillF 8 (-1) f46))), (q32, .inl (g.2 0, 300, .inl (fillF 300 (-1) f46))), (q45, .inl (g.2 1, 300, .inr (.inl f43))), (q35, .inr (3, [.ref q45])), (q34, .inl (g.2 1, 300, .inr (.inl f43)))] := hD
  refine g_i (wr := [(q1, .inr (11, [.ref q13, w3, .ref q21, w5, w6, w7, w8, w9, .int 1, w11, w12])), (q17, .inl (g.2 3, 10, .inr (.inr (.inr (.inr f18))))), (q13, .inr (10, [.ref q17, .int 0, w16])), (q20, .inr (8, [w36, w37, w38, w39, .int 0, w41, w42])), (q33, .inl (g.2 0, 8, .inl (fillF 8 (-1) f46))), (q32, .inl (g.2 0, 300, .inl (fillF 300 (-1) f46))), (q45, .inl (g.2 1, 300, .inr (.inl f43))), (q35, .inr (3, [.ref q45])), (q34, .inl (g.2 1, 300, .inr (.inl f43)))]) (rV (rest := []) hx hb hml hown hE hP hD 4 rfl rfl (c1644_X5_droppedCount l g q21 w22 (.ref q32) w24 (.ref q33) (.ref q34) (.ref q35) (.int 0) (.int 0) (.int 0) H.size) (kV_X5_droppedCount hE (e857 hE) rfl rfl ⟨(Nat.le_of_ble_eq_true rfl), (Nat.le_of_ble_eq_true rfl)⟩) [4] rfl (by decide) rfl hl.1 rfl (lv_room (Nat.le_of_ble_eq_true rfl)) dX9_count_77 ⟨(Nat.le_of_ble_eq_true rfl), (Nat.le_of_ble_eq_true rfl)⟩) hP hD hS hA [4] [0, 1, 2, 3, 5, 6, 7, 8, 9] rfl rfl (by decide) (by decide) (fun u3 H locs hP hD hS => ?_)
  have hP : va_P g.1 vwCl [(q1, .inr (11, [.ref q13, w3, .ref q21, w5, w6, w7, w8, w9, .int 1, w11, w12])), (q17, .inl (g.2 3, 10, .inr (.inr (.inr (.inr f18))))), (q13, .inr (10, [.ref q17, .int 0, w16])), (q20, .inr (8, [w36, w37, w38, w39, .int 0, w41, w42])), (q33, .inl (g.2 0, 8, .inl (fillF 8 (-1) f46))), (q32, .inl (g.2 0, 300, .inl (fillF 300 (-1) f46))), (q45, .inl (g.2 1, 300, .inr (.inl f43))), (q35, .inr (3, [.ref q45])), (q34, .inl (g.2 1, 300, .inr (.inl f43))), (q21, .inr (7, [w22, .ref q32, w24, .ref q33, .ref q34, .ref q35, .int 0, .int 0, .int 0, .int 0]))] H := hP
  have hD : va_D A [(q1, .inr (11, [.ref q13, w3, .ref q21, w5, w6, w7, w8, w9, .int 1, w11, w12])), (q17, .inl (g.2 3, 10, .inr (.inr (.inr (.inr f18))))), (q13, .inr (10, [.ref q17, .int 0, w16])), (q20, .inr (8, [w36, w37, w38, w39, .int 0, w41, w42])), (q33, .inl (g.2 0, 8, .inl (fillF 8 (-1) f46))), (q32, .inl (g.2 0, 300, .inl (fillF 300 (-1) f46))), (q45, .inl (g.2 1, 300, .inr (.inl f43))), (q35, .inr (3, [.ref q45])), (q34, .inl (g.2 1, 300, .inr (.inl f43))), (q21, .inr (7, [w22, .ref q32, w24, .ref q33, .ref q34, .ref q35, .int 0, .int 0, .int 0, .int 0]))] := hD
  exact x_zret hx hb hr rfl rfl hlocks hP hD hS hAe hsz (Nat.le_of_ble_eq_true rfl) (Nat.le_of_ble_eq_true rfl) (fun _ => 0) [0, 1, 2, 3, 4, 5, 6, 7, 8, 9] (by decide) rfl dX9_count_80
