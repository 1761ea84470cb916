set_option maxHeartbeats 4000000 in
set_option maxRecDepth 100000 in
theorem c1951_X10_setEnvelope (l : Launch) (g : gG) (q1 q51 q52 q53 : Nat) (x2 x3 x4 x5 : Int32) (w15 w17 w20 w21 w22 w23 w24 w25 w26 w27 w28 w29 w30 w31 w32 w33 w34 w35 w36 w37 w38 w39 w40 w41 w42 w43 w44 w45 w46 w47 w48 w49 w50 : Value) (f54 : Nat → Int32) (f55 : Nat → Int32) (hf56 : f54 474 = 0) (hf58 : f54 475 = 0) (hf60 : f54 476 = 100) (hf62 : f54 477 = 0) (hf64 : f54 484 = 0) (hf65 : f54 485 = 0) (hf66 : f54 486 = 100) (hf67 : f54 487 = 0) (hf68 : f54 489 = 0) (hf69 : f54 490 = 0) (hf70 : f54 491 = 100) (hf71 : f54 492 = 0) (h6 : (0 : Int32) ≤ x2) (h7 : x2 ≤ 5000) (h8 : (0 : Int32) ≤ x3) (h9 : x3 ≤ 5000) (h10 : (0 : Int32) ≤ x4) (h11 : x4 ≤ 100) (h12 : (0 : Int32) ≤ x5) (h13 : x5 ≤ 5000) (h57 : (0 : Int32) = x2) (h59 : (0 : Int32) = x3) (h61 : (100 : Int32) = x4) (h63 : (0 : Int32) = x5) (sz : Nat) : Met l yX10_setEnvelope [Cond.code yX10_setEnvelope cX10_setEnvelope 12 (some .int)] ({ frames := 2, cells := 0, slots := 0, locals := 42 } : Room) (va_Pc [.ref q1, .int 1, .int x2, .int x3, .int x4, .int x5] (PX g sz [(q53, .inl (g.2 0, 3976, .inl f55)), (q52, .inl (g.2 0, 497, .inl f55)), (q51, .inl (g.2 0, 497, .inl f54)), (q1, .inr (12, [.ref q51, w15, .ref q52, w17, .ref q53, .int 0, w20, w21, w22, w23, w24, w25, w26, w27, w28, w29, w30, w31, w32, w33, w34, w35, w36, w37, w38, w39, w40, w41, w42, w43, w44, w45, w46, w47, w48, w49, w50]))])) (QI g [(q53, .inl (g.2 0, 3976, .inl f55)), (q52, .inl (g.2 0, 497, .inl f55)), (q51, .inl (g.2 0, 497, .inl f54)), (q1, .inr (12, [.ref q51, w15, .ref q52, w17, .ref q53, .int 0, w20, w21, w22, w23, w24, w25, w26, w27, w28, w29, w30, w31, w32, w33, w34, w35, w36, w37, w38, w39, w40, w41, w42, w43, w44, w45, w46, w47, w48, w49, w50]))] sz 4 (fun _ => [(q1, .inr (12, [.ref q51, w15, .ref q52, w17, .ref q53, .int 1, .int 0, w21, w22, w23, w24, w25, w26, w27, w28, w29, w30, w31, w32, w33, w34, w35, w36, w37, w38, w39, w40, w41, w42, w43, w44, w45, w46, w47, w48, w49, w50]))])) 0 0 (va_A [(q53, .inl (g.2 0, 3976, .inl f55)), (q52, .inl (g.2 0, 497, .inl f55)), (q51, .inl (g.2 0, 497, .inl f54)), (q1, .inr (12, [.ref q51, w15, .ref q52, w17, .ref q53, .int 0, w20, w21, w22, w23, w24, w25, w26, w27, w28, w29, w30, w31, w32, w33, w34, w35, w36, w37, w38, w39, w40, w41, w42, w43, w44, w45, w46, w47, w48, w49, w50]))] sz) := by
  refine ofN (by decide) (Nat.le_of_ble_eq_true rfl) rfl ?_
  intro p e s m args below meth c A ls hAe hsz hx hb hml hr hlocks hin hown hE hP hD hA hS hl
  have hown : s.vm.findClass RX10 = some m.cls := hown
  refine lv_iload_n hx hb dX10_setEnvelope_0 rfl (lv_at hl 2 rfl) ?_
  refine lv_iconst (v := 0) hx hb dX10_setEnvelope_1 (by decide) ?_
  refine lv_sipush (v := 5000) hx hb dX10_setEnvelope_2 (by decide) ?_
  refine g0_i (rS (rest := []) hx hb hml hown hE hP hD (c1843_X10_in l g x2 h6 h7 s.heap.size) (kS_X10_in hE (e1431 hE) rfl rfl ⟨(Nat.le_of_ble_eq_true rfl), (Nat.le_of_ble_eq_true rfl)⟩) [] rfl (by decide) rfl hl.1 rfl (lv_room (Nat.le_of_ble_eq_true rfl)) dX10_setEnvelope_5 ⟨(Nat.le_of_ble_eq_true rfl), (Nat.le_of_ble_eq_true rfl)⟩) hP hD hS hA (fun u9 H locs hP hS => ?_)
  refine lv_if_eq (tgt := 49) hx hb dX10_setEnvelope_8 (by decide) (fun h => absurd h (by decide)) (fun _ => ?_)
  refine lv_iload_n hx hb dX10_setEnvelope_11 rfl (lv_at hl 3 rfl) ?_
  refine lv_iconst (v := 0) hx hb dX10_setEnvelope_12 (by decide) ?_
  refine lv_sipush (v := 5000) hx hb dX10_setEnvelope_13 (by decide) ?_
  refine g0_i (rS (rest := []) hx hb hml hown hE hP hD (c1843_X10_in l g x3 h8 h9 H.size) (kS_X10_in hE (e1431 hE) rfl rfl ⟨(Nat.le_of_ble_eq_true rfl), (Nat.le_of_ble_eq_true rfl)⟩) [] rfl (by decide) rfl hl.1 rfl (lv_room (Nat.le_of_ble_eq_true rfl)) dX10_setEnvelope_16 ⟨(Nat.le_of_ble_eq_true rfl), (Nat.le_of_ble_eq_true rfl)⟩) hP hD hS hA (fun u9 H locs hP hS => ?_)
  refine lv_if_eq (tgt := 49) hx hb dX10_setEnvelope_19 (by decide) (fun h => absurd h (by decide)) (fun _ => ?_)
  refine lv_iload hx hb dX10_setEnvelope_22 (lv_at hl 4 rfl) ?_
  refine lv_iconst (v := 0) hx hb dX10_setEnvelope_24 (by decide) ?_
  refine lv_bipush (v := 100) hx hb dX10_setEnvelope_25 (by decide) ?_
  refine g0_i (rS (rest := []) hx hb hml hown hE hP hD (c1849_X10_in l g x4 h10 h11 H.size) (kS_X10_in hE (e1431 hE) rfl rfl ⟨(Nat.le_of_ble_eq_true rfl), (Nat.le_of_ble_eq_true rfl)⟩) [] rfl (by decide) rfl hl.1 rfl (lv_room (Nat.le_of_ble_eq_true rfl)) dX10_setEnvelope_27 ⟨(Nat.le_of_ble_eq_true rfl), (Nat.le_of_ble_eq_true rfl)⟩) hP hD hS hA (fun u9 H locs hP hS => ?_)
  refine lv_if_eq (tgt := 49) hx hb dX10_setEnvelope_30 (by decide) (fun h => absurd h (by decide)) (fun _ => ?_)
  refine lv_iload hx hb dX10_setEnvelope_33 (lv_at hl 5 rfl) ?_
  refine lv_iconst (v := 0) hx hb dX10_setEnvelope_35 (by decide) ?_
  refine lv_sipush (v := 5000) hx hb dX10_setEnvelope_36 (by decide) ?_
  refine g0_i (rS (rest := []) hx hb hml hown hE hP hD (c1843_X10_in l g x5 h12 h13 H.size) (kS_X10_in hE (e1431 hE) rfl rfl ⟨(Nat.le_of_ble_eq_true rfl), (Nat.le_of_ble_eq_true rfl)⟩) [] rfl (by decide) rfl hl.1 rfl (lv_room (Nat.le_of_ble_eq_true rfl)) dX10_setEnvelope_39 ⟨(Nat.le_of_ble_eq_true rfl), (Nat.le_of_ble_eq_true rfl)⟩) hP hD hS hA (fun u9 H locs hP hS => ?_)
  refine lv_if_eq (tgt := 49) hx hb dX10_setEnvelope_42 (by decide) (fun h => absurd h (by decide)) (fun _ => ?_)
  refine lv_iconst (v := 1) hx hb dX10_setEnvelope_45 (by decide) ?_
  refine lv_goto (tgt := 50) hx hb dX10_setEnvelope_46 (by decide) ?_
  refine lv_istore (lv' := [(6, .int 1), (0, .ref q1), (1, .int 1), (2, .int x2), (3, .int x3), (4, .int x4), (5, .int x5)]) hx hb dX10_setEnvelope_50 hl (by decide) rfl (fun ls hl => ?_)
  refine lv_aload_n hx hb dX10_setEnvelope_52 rfl (lv_at hl 1 rfl) ?_
  refine lv_iload_n hx hb dX10_setEnvelope_53 rfl (lv_at hl 2 rfl) ?_
  refine g0_i (rS (rest := [.ref q1]) hx hb hml hown hE hP hD (c1857_X10_isInstrument l g 1 (by decide) (by decide) H.size) (kS_X10_isInstrument hE (e1645 hE) rfl rfl ⟨(Nat.le_of_ble_eq_true rfl), (Nat.le_of_ble_eq_true rfl)⟩) [] rfl (by decide) rfl hl.1 rfl (lv_room (Nat.le_of_ble_eq_true rfl)) dX10_setEnvelope_54 ⟨(Nat.le_of_ble_eq_true rfl), (Nat.le_of_ble_eq_true rfl)⟩) hP hD hS hA (fun u9 H locs hP hS => ?_)
  refine lv_if_ne (tgt := 64) hx hb dX10_setEnvelope_57 (by decide) (fun _ => ?_) (fun h => absurd h (by decide))
  refine lv_iload hx hb dX10_setEnvelope_64 (lv_at hl 0 rfl) ?_
  refine lv_if_ne (tgt := 73) hx hb dX10_setEnvelope_66 (by decide) (fun _ => ?_) (fun h => absurd h (by decide))
  refine lv_iconst (v := 0) hx hb dX10_setEnvelope_73 (by decide) ?_
  refine pf_RX10_86 (ws' := [(q53, .inl (g.2 0, 3976, .inl f55)), (q52, .inl (g.2 0, 497, .inl f55)), (q51, .inl (g.2 0, 497, .inl f54)), (q1, .inr (12, [.ref q51, w15, .ref q52, w17, .ref q53, .int 0, .int 0, w21, w22, w23, w24, w25, w26, w27, w28, w29, w30, w31, w32, w33, w34, w35, w36, w37, w38, w39, w40, w41, w42, w43, w44, w45, w46, w47, w48, w49, w50]))]) hx hb hown hE hP hD hS 3 rfl rfl rfl (Nat.le_of_ble_eq_true rfl) dX10_setEnvelope_74 rfl (fun H locs hP hD hS => ?_)
  refine lv_aload_n hx hb dX10_setEnvelope_77 rfl (lv_at hl 1 rfl) ?_
  refine gf_RX10_86 hx hb hown hE hP 3 rfl rfl dX10_setEnvelope_78 ?_
  refine lv_if_le (tgt := 86) hx hb dX10_setEnvelope_81 (by decide) (fun _ => ?_) (fun h => absurd (by decide) h)
  refine lv_aload_n hx hb dX10_setEnvelope_86 rfl (lv_at hl 1 rfl) ?_
  refine g_v (wr := []) (rV (rest := []) hx hb hml hown hE hP hD 3 rfl rfl (c1714_X10_keepNow l g q1 q51 q52 q53 w15 w17 (.int 0) w21 w22 w23 w24 w25 w26 w27 w28 w29 w30 w31 w32 w33 w34 w35 w36 w37 w38 w39 w40 w41 w42 w43 w44 w45 w46 w47 w48 w49 w50 f54 f55 H.size) (kV_X10_keepNow hE (e1494 hE) rfl rfl ⟨(Nat.le_of_ble_eq_true rfl), (Nat.le_of_ble_eq_true rfl)⟩) [0, 1, 2, 3] rfl (by decide) rfl hl.1 rfl (lv_room (Nat.le_of_ble_eq_true rfl)) dX10_setEnvelope_87 ⟨(Nat.le_of_ble_eq_true rfl), (Nat.le_of_ble_eq_true rfl)⟩) hP hD hS hA [0, 1, 2, 3] [] rfl rfl (by decide) (by decide) (fun u6 H locs hP hD hS => ?_)
  have hP : va_P g.1 vwCl [(q51, .inl (g.2 0, 497, .inl f54)), (q53, .inl (g.2 0, 3976, .inl (cpF 497 (cpF 497 f54 f55) f55))), (q52, .inl (g.2 0, 497, .inl (cpF 497 f54 f55))), (q1, .inr (12, [.ref q51, w15, .ref q52, w17, .ref q53, .int 1, .int 0, w21, w22, w23, w24, w25, w26, w27, w28, w29, w30, w31, w32, w33, w34, w35, w36, w37, w38, w39, w40, w41, w42, w43, w44, w45, w46, w47, w48, w49, w50]))] H := hP
  have hD : va_D A [(q51, .inl (g.2 0, 497, .inl f54)), (q53, .inl (g.2 0, 3976, .inl (cpF 497 (cpF 497 f54 f55) f55))), (q52, .inl (g.2 0, 497, .inl (cpF 497 f54 f55))), (q1, .inr (12, [.ref q51, w15, .ref q52, w17, .ref q53, .int 1, .int 0, w21, w22, w23, w24, w25, w26, w27, w28, w29, w30, w31, w32, w33, w34, w35, w36, w37, w38, w39, w40, w41, w42, w43, w44, w45, w46, w47, w48, w49, w50]))] := hD
  refine lv_sipush (v := 474) hx hb dX10_setEnvelope_90 (by decide) ?_
  refine lv_iconst (v := 5) hx hb dX10_setEnvelope_93 (by decide) ?_
  refine lv_iload_n hx hb dX10_setEnvelope_94 rfl (lv_at hl 2 rfl) ?_
  refine x_imul (v := 5) hx hb dX10_setEnvelope_95 (by decide) ?_
  refine x_iadd (v := 479) hx hb dX10_setEnvelope_96 (by decide) ?_
  refine lv_istore (lv' := [(7, .int 479), (6, .int 1), (0, .ref q1), (1, .int 1), (2, .int x2), (3, .int x3), (4, .int x4), (5, .int x5)]) hx hb dX10_setEnvelope_97 hl (by decide) rfl (fun ls hl => ?_)
  refine lv_aload_n hx hb dX10_setEnvelope_99 rfl (lv_at hl 2 rfl) ?_
  refine gf_RX10_9 hx hb hown hE hP 3 rfl rfl dX10_setEnvelope_100 ?_
  refine lv_iload hx hb dX10_setEnvelope_103 (lv_at hl 0 rfl) ?_
  refine lv_iload_n hx hb dX10_setEnvelope_105 rfl (lv_at hl 4 rfl) ?_
  refine x_iast (ws' := [(q51, .inl (g.2 0, 497, .inl (upd f54 479 x2))), (q53, .inl (g.2 0, 3976, .inl (cpF 497 (cpF 497 f54 f55) f55))), (q52, .inl (g.2 0, 497, .inl (cpF 497 f54 f55))), (q1, .inr (12, [.ref q51, w15, .ref q52, w17, .ref q53, .int 1, .int 0, w21, w22, w23, w24, w25, w26, w27, w28, w29, w30, w31, w32, w33, w34, w35, w36, w37, w38, w39, w40, w41, w42, w43, w44, w45, w46, w47, w48, w49, w50]))]) hx hb hE hP hD hS 0 rfl 479 (x_in (by decide)) (by decide) dX10_setEnvelope_106 rfl (fun H locs hP hD hS => ?_)
  refine lv_aload_n hx hb dX10_setEnvelope_107 rfl (lv_at hl 2 rfl) ?_
  refine gf_RX10_9 hx hb hown hE hP 3 rfl rfl dX10_setEnvelope_108 ?_
  refine lv_iload hx hb dX10_setEnvelope_111 (lv_at hl 0 rfl) ?_
  refine lv_iconst (v := 1) hx hb dX10_setEnvelope_113 (by decide) ?_
  refine x_iadd (v := 480) hx hb dX10_setEnvelope_114 (by decide) ?_
  refine lv_iload_n hx hb dX10_setEnvelope_115 rfl (lv_at hl 5 rfl) ?_
  refine x_iast (ws' := [(q51, .inl (g.2 0, 497, .inl (upd (upd f54 479 x2) 480 x3))), (q53, .inl (g.2 0, 3976, .inl (cpF 497 (cpF 497 f54 f55) f55))), (q52, .inl (g.2 0, 497, .inl (cpF 497 f54 f55))), (q1, .inr (12, [.ref q51, w15, .ref q52, w17, .ref q53, .int 1, .int 0, w21, w22, w23, w24, w25, w26, w27, w28, w29, w30, w31, w32, w33, w34, w35, w36, w37, w38, w39, w40, w41, w42, w43, w44, w45, w46, w47, w48, w49, w50]))]) hx hb hE hP hD hS 0 rfl 480 (x_in (by decide)) (by decide) dX10_setEnvelope_116 rfl (fun H locs hP hD hS => ?_)
  refine lv_aload_n hx hb dX10_setEnvelope_117 rfl (lv_at hl 2 rfl) ?_
  refine gf_RX10_9 hx hb hown hE hP 3 rfl rfl dX10_setEnvelope_118 ?_
  refine lv_iload hx hb dX10_setEnvelope_121 (lv_at hl 0 rfl) ?_
  refine lv_iconst (v := 2) hx hb dX10_setEnvelope_123 (by decide) ?_
  refine x_iadd (v := 481) hx hb dX10_setEnvelope_124 (by decide) ?_
  refine lv_iload hx hb dX10_setEnvelope_125 (lv_at hl 6 rfl) ?_
  refine x_iast (ws' := [(q51, .inl (g.2 0, 497, .inl (upd (upd (upd f54 479 x2) 480 x3) 481 x4))), (q53, .inl (g.2 0, 3976, .inl (cpF 497 (cpF 497 f54 f55) f55))), (q52, .inl (g.2 0, 497, .inl (cpF 497 f54 f55))), (q1, .inr (12, [.ref q51, w15, .ref q52, w17, .ref q53, .int 1, .int 0, w21, w22, w23, w24, w25, w26, w27, w28, w29, w30, w31, w32, w33, w34, w35, w36, w37, w38, w39, w40, w41, w42, w43, w44, w45, w46, w47, w48, w49, w50]))]) hx hb hE hP hD hS 0 rfl 481 (x_in (by decide)) (by decide) dX10_setEnvelope_127 rfl (fun H locs hP hD hS => ?_)
  refine lv_aload_n hx hb dX10_setEnvelope_128 rfl (lv_at hl 2 rfl) ?_
  refine gf_RX10_9 hx hb hown hE hP 3 rfl rfl dX10_setEnvelope_129 ?_
  refine lv_iload hx hb dX10_setEnvelope_132 (lv_at hl 0 rfl) ?_
  refine lv_iconst (v := 3) hx hb dX10_setEnvelope_134 (by decide) ?_
  refine x_iadd (v := 482) hx hb dX10_setEnvelope_135 (by decide) ?_
  refine lv_iload hx hb dX10_setEnvelope_136 (lv_at hl 7 rfl) ?_
  refine x_iast (ws' := [(q51, .inl (g.2 0, 497, .inl (upd (upd (upd (upd f54 479 x2) 480 x3) 481 x4) 482 x5))), (q53, .inl (g.2 0, 3976, .inl (cpF 497 (cpF 497 f54 f55) f55))), (q52, .inl (g.2 0, 497, .inl (cpF 497 f54 f55))), (q1, .inr (12, [.ref q51, w15, .ref q52, w17, .ref q53, .int 1, .int 0, w21, w22, w23, w24, w25, w26, w27, w28, w29, w30, w31, w32, w33, w34, w35, w36, w37, w38, w39, w40, w41, w42, w43, w44, w45, w46, w47, w48, w49, w50]))]) hx hb hE hP hD hS 0 rfl 482 (x_in (by decide)) (by decide) dX10_setEnvelope_138 rfl (fun H locs hP hD hS => ?_)
  refine lv_iconst (v := 0) hx hb dX10_setEnvelope_139 (by decide) ?_
  refine lv_istore (lv' := [(8, .int 0), (7, .int 479), (6, .int 1), (0, .ref q1), (1, .int 1), (2, .int x2), (3, .int x3), (4, .int x4), (5, .int x5)]) hx hb dX10_setEnvelope_140 hl (by decide) rfl (fun ls hl => ?_)
  refine lv_iconst (v := 0) hx hb dX10_setEnvelope_142 (by decide) ?_
  refine lv_istore (lv' := [(9, .int 0), (8, .int 0), (7, .int 479), (6, .int 1), (0, .ref q1), (1, .int 1), (2, .int x2), (3, .int x3), (4, .int x4), (5, .int x5)]) hx hb dX10_setEnvelope_143 hl (by decide) rfl (fun ls hl => ?_)
  refine lv_iload hx hb dX10_setEnvelope_145 (lv_at hl 0 rfl) ?_
  refine lv_iconst (v := 4) hx hb dX10_setEnvelope_147 (by decide) ?_
  refine lv_icmp_ge (tgt := 229) hx hb dX10_setEnvelope_148 (by decide) (fun h => absurd h (by decide)) (fun _ => ?_)
  refine lv_iconst (v := 1) hx hb dX10_setEnvelope_151 (by decide) ?_
  refine lv_istore (lv' := [(10, .int 1), (9, .int 0), (8, .int 0), (7, .int 479), (6, .int 1), (0, .ref q1), (1, .int 1), (2, .int x2), (3, .int x3), (4, .int x4), (5, .int x5)]) hx hb dX10_setEnvelope_152 hl (by decide) rfl (fun ls hl => ?_)
  refine lv_iconst (v := 0) hx hb dX10_setEnvelope_154 (by decide) ?_
  refine lv_istore (lv' := [(11, .int 0), (10, .int 1), (9, .int 0), (8, .int 0), (7, .int 479), (6, .int 1), (0, .ref q1), (1, .int 1), (2, .int x2), (3, .int x3), (4, .int x4), (5, .int x5)]) hx hb dX10_setEnvelope_155 hl (by decide) rfl (fun ls hl => ?_)
  refine lv_iload hx hb dX10_setEnvelope_157 (lv_at hl 0 rfl) ?_
  refine lv_iconst (v := 4) hx hb dX10_setEnvelope_159 (by decide) ?_
  refine lv_icmp_ge (tgt := 208) hx hb dX10_setEnvelope_160 (by decide) (fun h => absurd h (by decide)) (fun _ => ?_)
  refine lv_iload hx hb dX10_setEnvelope_163 (lv_at hl 1 rfl) ?_
  refine lv_aload_n hx hb dX10_setEnvelope_165 rfl (lv_at hl 6 rfl) ?_
  refine gf_RX10_9 hx hb hown hE hP 3 rfl rfl dX10_setEnvelope_166 ?_
  refine lv_sipush (v := 474) hx hb dX10_setEnvelope_169 (by decide) ?_
  refine lv_iconst (v := 5) hx hb dX10_setEnvelope_172 (by decide) ?_
  refine lv_iload hx hb dX10_setEnvelope_173 (lv_at hl 2 rfl) ?_
  refine x_imul (v := 0) hx hb dX10_setEnvelope_175 (by decide) ?_
  refine x_iadd (v := 474) hx hb dX10_setEnvelope_176 (by decide) ?_
  refine lv_iload hx hb dX10_setEnvelope_177 (lv_at hl 0 rfl) ?_
  refine x_iadd (v := 474) hx hb dX10_setEnvelope_179 (by decide) ?_
  refine x_iald (v := 0) hx hb hE hP 0 rfl 474 (x_in (by decide)) (by decide) ((pk_un (by decide)).trans ((pk_un (by decide)).trans ((pk_un (by decide)).trans ((pk_un (by decide)).trans hf56)))) dX10_setEnvelope_180 ?_
  refine lv_aload_n hx hb dX10_setEnvelope_181 rfl (lv_at hl 6 rfl) ?_
  refine gf_RX10_9 hx hb hown hE hP 3 rfl rfl dX10_setEnvelope_182 ?_
  refine lv_iload hx hb dX10_setEnvelope_185 (lv_at hl 4 rfl) ?_
  refine lv_iload hx hb dX10_setEnvelope_187 (lv_at hl 0 rfl) ?_
  refine x_iadd (v := 479) hx hb dX10_setEnvelope_189 (by decide) ?_
  refine x_iald (v := x2) hx hb hE hP 0 rfl 479 (x_in (by decide)) (by decide) ((pk_un (by decide)).trans ((pk_un (by decide)).trans ((pk_un (by decide)).trans pk_us))) dX10_setEnvelope_190 ?_
  refine lv_icmp_ne (tgt := 198) hx hb dX10_setEnvelope_191 (by decide) (fun h => absurd h (i_nne h57)) (fun _ => ?_)
  refine lv_iconst (v := 1) hx hb dX10_setEnvelope_194 (by decide) ?_
  refine lv_goto (tgt := 199) hx hb dX10_setEnvelope_195 (by decide) ?_
  refine x_iand (v := 1) hx hb dX10_setEnvelope_199 (by decide) ?_
  refine lv_istore (lv' := [(10, .int 1), (11, .int 0), (9, .int 0), (8, .int 0), (7, .int 479), (6, .int 1), (0, .ref q1), (1, .int 1), (2, .int x2), (3, .int x3), (4, .int x4), (5, .int x5)]) hx hb dX10_setEnvelope_200 hl (by decide) rfl (fun ls hl => ?_)
  refine lv_iinc (v := 1) (lv' := [(11, .int 1), (10, .int 1), (9, .int 0), (8, .int 0), (7, .int 479), (6, .int 1), (0, .ref q1), (1, .int 1), (2, .int x2), (3, .int x3), (4, .int x4), (5, .int x5)]) hx hb dX10_setEnvelope_202 hl (k := 1) rfl (by decide) (by decide) rfl (fun ls hl => ?_)
  refine lv_goto (tgt := 157) hx hb dX10_setEnvelope_205 (by decide) ?_
  refine lv_iload hx hb dX10_setEnvelope_157 (lv_at hl 0 rfl) ?_
  refine lv_iconst (v := 4) hx hb dX10_setEnvelope_159 (by decide) ?_
  refine lv_icmp_ge (tgt := 208) hx hb dX10_setEnvelope_160 (by decide) (fun h => absurd h (by decide)) (fun _ => ?_)
  refine lv_iload hx hb dX10_setEnvelope_163 (lv_at hl 1 rfl) ?_
  refine lv_aload_n hx hb dX10_setEnvelope_165 rfl (lv_at hl 6 rfl) ?_
  refine gf_RX10_9 hx hb hown hE hP 3 rfl rfl dX10_setEnvelope_166 ?_
  refine lv_sipush (v := 474) hx hb dX10_setEnvelope_169 (by decide) ?_
  refine lv_iconst (v := 5) hx hb dX10_setEnvelope_172 (by decide) ?_
  refine lv_iload hx hb dX10_setEnvelope_173 (lv_at hl 2 rfl) ?_
  refine x_imul (v := 0) hx hb dX10_setEnvelope_175 (by decide) ?_
  refine x_iadd (v := 474) hx hb dX10_setEnvelope_176 (by decide) ?_
  refine lv_iload hx hb dX10_setEnvelope_177 (lv_at hl 0 rfl) ?_
  refine x_iadd (v := 475) hx hb dX10_setEnvelope_179 (by decide) ?_
  refine x_iald (v := 0) hx hb hE hP 0 rfl 475 (x_in (by decide)) (by decide) ((pk_un (by decide)).trans ((pk_un (by decide)).trans ((pk_un (by decide)).trans ((pk_un (by decide)).trans hf58)))) dX10_setEnvelope_180 ?_
  refine lv_aload_n hx hb dX10_setEnvelope_181 rfl (lv_at hl 6 rfl) ?_
  refine gf_RX10_9 hx hb hown hE hP 3 rfl rfl dX10_setEnvelope_182 ?_
  refine lv_iload hx hb dX10_setEnvelope_185 (lv_at hl 4 rfl) ?_
  refine lv_iload hx hb dX10_setEnvelope_187 (lv_at hl 0 rfl) ?_
  refine x_iadd (v := 480) hx hb dX10_setEnvelope_189 (by decide) ?_
  refine x_iald (v := x3) hx hb hE hP 0 rfl 480 (x_in (by decide)) (by decide) ((pk_un (by decide)).trans ((pk_un (by decide)).trans pk_us)) dX10_setEnvelope_190 ?_
  refine lv_icmp_ne (tgt := 198) hx hb dX10_setEnvelope_191 (by decide) (fun h => absurd h (i_nne h59)) (fun _ => ?_)
  refine lv_iconst (v := 1) hx hb dX10_setEnvelope_194 (by decide) ?_
  refine lv_goto (tgt := 199) hx hb dX10_setEnvelope_195 (by decide) ?_
  refine x_iand (v := 1) hx hb dX10_setEnvelope_199 (by decide) ?_
  refine lv_istore (lv' := [(10, .int 1), (11, .int 1), (9, .int 0), (8, .int 0), (7, .int 479), (6, .int 1), (0, .ref q1), (1, .int 1), (2, .int x2), (3, .int x3), (4, .int x4), (5, .int x5)]) hx hb dX10_setEnvelope_200 hl (by decide) rfl (fun ls hl => ?_)
  refine lv_iinc (v := 2) (lv' := [(11, .int 2), (10, .int 1), (9, .int 0), (8, .int 0), (7, .int 479), (6, .int 1), (0, .ref q1), (1, .int 1), (2, .int x2), (3, .int x3), (4, .int x4), (5, .int x5)]) hx hb dX10_setEnvelope_202 hl (k := 1) rfl (by decide) (by decide) rfl (fun ls hl => ?_)
  refine lv_goto (tgt := 157) hx hb dX10_setEnvelope_205 (by decide) ?_
  refine lv_iload hx hb dX10_setEnvelope_157 (lv_at hl 0 rfl) ?_
  refine lv_iconst (v := 4) hx hb dX10_setEnvelope_159 (by decide) ?_
  refine lv_icmp_ge (tgt := 208) hx hb dX10_setEnvelope_160 (by decide) (fun h => absurd h (by decide)) (fun _ => ?_)
  refine lv_iload hx hb dX10_setEnvelope_163 (lv_at hl 1 rfl) ?_
  refine lv_aload_n hx hb dX10_setEnvelope_165 rfl (lv_at hl 6 rfl) ?_
  refine gf_RX10_9 hx hb hown hE hP 3 rfl rfl dX10_setEnvelope_166 ?_
  refine lv_sipush (v := 474) hx hb dX10_setEnvelope_169 (by decide) ?_
  refine lv_iconst (v := 5) hx hb dX10_setEnvelope_172 (by decide) ?_
  refine lv_iload hx hb dX10_setEnvelope_173 (lv_at hl 2 rfl) ?_
  refine x_imul (v := 0) hx hb dX10_setEnvelope_175 (by decide) ?_
  refine x_iadd (v := 474) hx hb dX10_setEnvelope_176 (by decide) ?_
  refine lv_iload hx hb dX10_setEnvelope_177 (lv_at hl 0 rfl) ?_
  refine x_iadd (v := 476) hx hb dX10_setEnvelope_179 (by decide) ?_
  refine x_iald (v := 100) hx hb hE hP 0 rfl 476 (x_in (by decide)) (by decide) ((pk_un (by decide)).trans ((pk_un (by decide)).trans ((pk_un (by decide)).trans ((pk_un (by decide)).trans hf60)))) dX10_setEnvelope_180 ?_
  refine lv_aload_n hx hb dX10_setEnvelope_181 rfl (lv_at hl 6 rfl) ?_
  refine gf_RX10_9 hx hb hown hE hP 3 rfl rfl dX10_setEnvelope_182 ?_
  refine lv_iload hx hb dX10_setEnvelope_185 (lv_at hl 4 rfl) ?_
  refine lv_iload hx hb dX10_setEnvelope_187 (lv_at hl 0 rfl) ?_
  refine x_iadd (v := 481) hx hb dX10_setEnvelope_189 (by decide) ?_
  refine x_iald (v := x4) hx hb hE hP 0 rfl 481 (x_in (by decide)) (by decide) ((pk_un (by decide)).trans pk_us) dX10_setEnvelope_190 ?_
  refine lv_icmp_ne (tgt := 198) hx hb dX10_setEnvelope_191 (by decide) (fun h => absurd h (i_nne h61)) (fun _ => ?_)
  refine lv_iconst (v := 1) hx hb dX10_setEnvelope_194 (by decide) ?_
  refine lv_goto (tgt := 199) hx hb dX10_setEnvelope_195 (by decide) ?_
  refine x_iand (v := 1) hx hb dX10_setEnvelope_199 (by decide) ?_
  refine lv_istore (lv' := [(10, .int 1), (11, .int 2), (9, .int 0), (8, .int 0), (7, .int 479), (6, .int 1), (0, .ref q1), (1, .int 1), (2, .int x2), (3, .int x3), (4, .int x4), (5, .int x5)]) hx hb dX10_setEnvelope_200 hl (by decide) rfl (fun ls hl => ?_)
  refine lv_iinc (v := 3) (lv' := [(11, .int 3), (10, .int 1), (9, .int 0), (8, .int 0), (7, .int 479), (6, .int 1), (0, .ref q1), (1, .int 1), (2, .int x2), (3, .int x3), (4, .int x4), (5, .int x5)]) hx hb dX10_setEnvelope_202 hl (k := 1) rfl (by decide) (by decide) rfl (fun ls hl => ?_)
  refine lv_goto (tgt := 157) hx hb dX10_setEnvelope_205 (by decide) ?_
  refine lv_iload hx hb dX10_setEnvelope_157 (lv_at hl 0 rfl) ?_
  refine lv_iconst (v := 4) hx hb dX10_setEnvelope_159 (by decide) ?_
  refine lv_icmp_ge (tgt := 208) hx hb dX10_setEnvelope_160 (by decide) (fun h => absurd h (by decide)) (fun _ => ?_)
  refine lv_iload hx hb dX10_setEnvelope_163 (lv_at hl 1 rfl) ?_
  refine lv_aload_n hx hb dX10_setEnvelope_165 rfl (lv_at hl 6 rfl) ?_
  refine gf_RX10_9 hx hb hown hE hP 3 rfl rfl dX10_setEnvelope_166 ?_
  refine lv_sipush (v := 474) hx hb dX10_setEnvelope_169 (by decide) ?_
  refine lv_iconst (v := 5) hx hb dX10_setEnvelope_172 (by decide) ?_
  refine lv_iload hx hb dX10_setEnvelope_173 (lv_at hl 2 rfl) ?_
  refine x_imul (v := 0) hx hb dX10_setEnvelope_175 (by decide) ?_
  refine x_iadd (v := 474) hx hb dX10_setEnvelope_176 (by decide) ?_
  refine lv_iload hx hb dX10_setEnvelope_177 (lv_at hl 0 rfl) ?_
  refine x_iadd (v := 477) hx hb dX10_setEnvelope_179 (by decide) ?_
  refine x_iald (v := 0) hx hb hE hP 0 rfl 477 (x_in (by decide)) (by decide) ((pk_un (by decide)).trans ((pk_un (by decide)).trans ((pk_un (by decide)).trans ((pk_un (by decide)).trans hf62)))) dX10_setEnvelope_180 ?_
  refine lv_aload_n hx hb dX10_setEnvelope_181 rfl (lv_at hl 6 rfl) ?_
  refine gf_RX10_9 hx hb hown hE hP 3 rfl rfl dX10_setEnvelope_182 ?_
  refine lv_iload hx hb dX10_setEnvelope_185 (lv_at hl 4 rfl) ?_
  refine lv_iload hx hb dX10_setEnvelope_187 (lv_at hl 0 rfl) ?_
  refine x_iadd (v := 482) hx hb dX10_setEnvelope_189 (by decide) ?_
  refine x_iald (v := x5) hx hb hE hP 0 rfl 482 (x_in (by decide)) (by decide) pk_us dX10_setEnvelope_190 ?_
  refine lv_icmp_ne (tgt := 198) hx hb dX10_setEnvelope_191 (by decide) (fun h => absurd h (i_nne h63)) (fun _ => ?_)
  refine lv_iconst (v := 1) hx hb dX10_setEnvelope_194 (by decide) ?_
  refine lv_goto (tgt := 199) hx hb dX10_setEnvelope_195 (by decide) ?_
  refine x_iand (v := 1) hx hb dX10_setEnvelope_199 (by decide) ?_
  refine lv_istore (lv' := [(10, .int 1), (11, .int 3), (9, .int 0), (8, .int 0), (7, .int 479), (6, .int 1), (0, .ref q1), (1, .int 1), (2, .int x2), (3, .int x3), (4, .int x4), (5, .int x5)]) hx hb dX10_setEnvelope_200 hl (by decide) rfl (fun ls hl => ?_)
  refine lv_iinc (v := 4) (lv' := [(11, .int 4), (10, .int 1), (9, .int 0), (8, .int 0), (7, .int 479), (6, .int 1), (0, .ref q1), (1, .int 1), (2, .int x2), (3, .int x3), (4, .int x4), (5, .int x5)]) hx hb dX10_setEnvelope_202 hl (k := 1) rfl (by decide) (by decide) rfl (fun ls hl => ?_)
  refine lv_goto (tgt := 157) hx hb dX10_setEnvelope_205 (by decide) ?_
  refine lv_iload hx hb dX10_setEnvelope_157 (lv_at hl 0 rfl) ?_
  refine lv_iconst (v := 4) hx hb dX10_setEnvelope_159 (by decide) ?_
  refine lv_icmp_ge (tgt := 208) hx hb dX10_setEnvelope_160 (by decide) (fun _ => ?_) (fun h => absurd (by decide) h)
  refine lv_iload hx hb dX10_setEnvelope_208 (lv_at hl 3 rfl) ?_
  refine lv_iload hx hb dX10_setEnvelope_210 (lv_at hl 1 rfl) ?_
  refine lv_if_eq (tgt := 219) hx hb dX10_setEnvelope_212 (by decide) (fun h => absurd h (by decide)) (fun _ => ?_)
  refine lv_iconst (v := 1) hx hb dX10_setEnvelope_215 (by decide) ?_
  refine lv_goto (tgt := 220) hx hb dX10_setEnvelope_216 (by decide) ?_
  refine x_iadd (v := 1) hx hb dX10_setEnvelope_220 (by decide) ?_
  refine lv_istore (lv' := [(8, .int 1), (11, .int 4), (10, .int 1), (9, .int 0), (7, .int 479), (6, .int 1), (0, .ref q1), (1, .int 1), (2, .int x2), (3, .int x3), (4, .int x4), (5, .int x5)]) hx hb dX10_setEnvelope_221 hl (by decide) rfl (fun ls hl => ?_)
  refine lv_iinc (v := 1) (lv' := [(9, .int 1), (8, .int 1), (11, .int 4), (10, .int 1), (7, .int 479), (6, .int 1), (0, .ref q1), (1, .int 1), (2, .int x2), (3, .int x3), (4, .int x4), (5, .int x5)]) hx hb dX10_setEnvelope_223 hl (k := 3) rfl (by decide) (by decide) rfl (fun ls hl => ?_)
  refine lv_goto (tgt := 145) hx hb dX10_setEnvelope_226 (by decide) ?_
  refine lv_iload hx hb dX10_setEnvelope_145 (lv_at hl 0 rfl) ?_
  refine lv_iconst (v := 4) hx hb dX10_setEnvelope_147 (by decide) ?_
  refine lv_icmp_ge (tgt := 229) hx hb dX10_setEnvelope_148 (by decide) (fun h => absurd h (by decide)) (fun _ => ?_)
  refine lv_iconst (v := 1) hx hb dX10_setEnvelope_151 (by decide) ?_
  refine lv_istore (lv' := [(10, .int 1), (9, .int 1), (8, .int 1), (11, .int 4), (7, .int 479), (6, .int 1), (0, .ref q1), (1, .int 1), (2, .int x2), (3, .int x3), (4, .int x4), (5, .int x5)]) hx hb dX10_setEnvelope_152 hl (by decide) rfl (fun ls hl => ?_)
  refine lv_iconst (v := 0) hx hb dX10_setEnvelope_154 (by decide) ?_
  refine lv_istore (lv' := [(11, .int 0), (10, .int 1), (9, .int 1), (8, .int 1), (7, .int 479), (6, .int 1), (0, .ref q1), (1, .int 1), (2, .int x2), (3, .int x3), (4, .int x4), (5, .int x5)]) hx hb dX10_setEnvelope_155 hl (by decide) rfl (fun ls hl => ?_)
  refine lv_iload hx hb dX10_setEnvelope_157 (lv_at hl 0 rfl) ?_
  refine lv_iconst (v := 4) hx hb dX10_setEnvelope_159 (by decide) ?_
  refine lv_icmp_ge (tgt := 208) hx hb dX10_setEnvelope_160 (by decide) (fun h => absurd h (by decide)) (fun _ => ?_)
  refine lv_iload hx hb dX10_setEnvelope_163 (lv_at hl 1 rfl) ?_
  refine lv_aload_n hx hb dX10_setEnvelope_165 rfl (lv_at hl 6 rfl) ?_
  refine gf_RX10_9 hx hb hown hE hP 3 rfl rfl dX10_setEnvelope_166 ?_
  refine lv_sipush (v := 474) hx hb dX10_setEnvelope_169 (by decide) ?_
  refine lv_iconst (v := 5) hx hb dX10_setEnvelope_172 (by decide) ?_
  refine lv_iload hx hb dX10_setEnvelope_173 (lv_at hl 2 rfl) ?_
  refine x_imul (v := 5) hx hb dX10_setEnvelope_175 (by decide) ?_
  refine x_iadd (v := 479) hx hb dX10_setEnvelope_176 (by decide) ?_
  refine lv_iload hx hb dX10_setEnvelope_177 (lv_at hl 0 rfl) ?_
  refine x_iadd (v := 479) hx hb dX10_setEnvelope_179 (by decide) ?_
  refine x_iald (v := x2) hx hb hE hP 0 rfl 479 (x_in (by decide)) (by decide) ((pk_un (by decide)).trans ((pk_un (by decide)).trans ((pk_un (by decide)).trans pk_us))) dX10_setEnvelope_180 ?_
  refine lv_aload_n hx hb dX10_setEnvelope_181 rfl (lv_at hl 6 rfl) ?_
  refine gf_RX10_9 hx hb hown hE hP 3 rfl rfl dX10_setEnvelope_182 ?_
  refine lv_iload hx hb dX10_setEnvelope_185 (lv_at hl 4 rfl) ?_
  refine lv_iload hx hb dX10_setEnvelope_187 (lv_at hl 0 rfl) ?_
  refine x_iadd (v := 479) hx hb dX10_setEnvelope_189 (by decide) ?_
  refine x_iald (v := x2) hx hb hE hP 0 rfl 479 (x_in (by decide)) (by decide) ((pk_un (by decide)).trans ((pk_un (by decide)).trans ((pk_un (by decide)).trans pk_us))) dX10_setEnvelope_190 ?_
  refine lv_icmp_ne (tgt := 198) hx hb dX10_setEnvelope_191 (by decide) (fun h => absurd h (i_nne rfl)) (fun _ => ?_)
  refine lv_iconst (v := 1) hx hb dX10_setEnvelope_194 (by decide) ?_
  refine lv_goto (tgt := 199) hx hb dX10_setEnvelope_195 (by decide) ?_
  refine x_iand (v := 1) hx hb dX10_setEnvelope_199 (by decide) ?_
  refine lv_istore (lv' := [(10, .int 1), (11, .int 0), (9, .int 1), (8, .int 1), (7, .int 479), (6, .int 1), (0, .ref q1), (1, .int 1), (2, .int x2), (3, .int x3), (4, .int x4), (5, .int x5)]) hx hb dX10_setEnvelope_200 hl (by decide) rfl (fun ls hl => ?_)
  refine lv_iinc (v := 1) (lv' := [(11, .int 1), (10, .int 1), (9, .int 1), (8, .int 1), (7, .int 479), (6, .int 1), (0, .ref q1), (1, .int 1), (2, .int x2), (3, .int x3), (4, .int x4), (5, .int x5)]) hx hb dX10_setEnvelope_202 hl (k := 1) rfl (by decide) (by decide) rfl (fun ls hl => ?_)
  refine lv_goto (tgt := 157) hx hb dX10_setEnvelope_205 (by decide) ?_
  refine lv_iload hx hb dX10_setEnvelope_157 (lv_at hl 0 rfl) ?_
  refine lv_iconst (v := 4) hx hb dX10_setEnvelope_159 (by decide) ?_
  refine lv_icmp_ge (tgt := 208) hx hb dX10_setEnvelope_160 (by decide) (fun h => absurd h (by decide)) (fun _ => ?_)
  refine lv_iload hx hb dX10_setEnvelope_163 (lv_at hl 1 rfl) ?_
  refine lv_aload_n hx hb dX10_setEnvelope_165 rfl (lv_at hl 6 rfl) ?_
  refine gf_RX10_9 hx hb hown hE hP 3 rfl rfl dX10_setEnvelope_166 ?_
  refine lv_sipush (v := 474) hx hb dX10_setEnvelope_169 (by decide) ?_
  refine lv_iconst (v := 5) hx hb dX10_setEnvelope_172 (by decide) ?_
  refine lv_iload hx hb dX10_setEnvelope_173 (lv_at hl 2 rfl) ?_
  refine x_imul (v := 5) hx hb dX10_setEnvelope_175 (by decide) ?_
  refine x_iadd (v := 479) hx hb dX10_setEnvelope_176 (by decide) ?_
  refine lv_iload hx hb dX10_setEnvelope_177 (lv_at hl 0 rfl) ?_
  refine x_iadd (v := 480) hx hb dX10_setEnvelope_179 (by decide) ?_
  refine x_iald (v := x3) hx hb hE hP 0 rfl 480 (x_in (by decide)) (by decide) ((pk_un (by decide)).trans ((pk_un (by decide)).trans pk_us)) dX10_setEnvelope_180 ?_
  refine lv_aload_n hx hb dX10_setEnvelope_181 rfl (lv_at hl 6 rfl) ?_
  refine gf_RX10_9 hx hb hown hE hP 3 rfl rfl dX10_setEnvelope_182 ?_
  refine lv_iload hx hb dX10_setEnvelope_185 (lv_at hl 4 rfl) ?_
  refine lv_iload hx hb dX10_setEnvelope_187 (lv_at hl 0 rfl) ?_
  refine x_iadd (v := 480) hx hb dX10_setEnvelope_189 (by decide) ?_
  refine x_iald (v := x3) hx hb hE hP 0 rfl 480 (x_in (by decide)) (by decide) ((pk_un (by decide)).trans ((pk_un (by decide)).trans pk_us)) dX10_setEnvelope_190 ?_
  refine lv_icmp_ne (tgt := 198) hx hb dX10_setEnvelope_191 (by decide) (fun h => absurd h (i_nne rfl)) (fun _ => ?_)
  refine lv_iconst (v := 1) hx hb dX10_setEnvelope_194 (by decide) ?_
  refine lv_goto (tgt := 199) hx hb dX10_setEnvelope_195 (by decide) ?_
  refine x_iand (v := 1) hx hb dX10_setEnvelope_199 (by decide) ?_
  refine lv_istore (lv' := [(10, .int 1), (11, .int 1), (9, .int 1), (8, .int 1), (7, .int 479), (6, .int 1), (0, .ref q1), (1, .int 1), (2, .int x2), (3, .int x3), (4, .int x4), (5, .int x5)]) hx hb dX10_setEnvelope_200 hl (by decide) rfl (fun ls hl => ?_)
  refine lv_iinc (v := 2) (lv' := [(11, .int 2), (10, .int 1), (9, .int 1), (8, .int 1), (7, .int 479), (6, .int 1), (0, .ref q1), (1, .int 1), (2, .int x2), (3, .int x3), (4, .int x4), (5, .int x5)]) hx hb dX10_setEnvelope_202 hl (k := 1) rfl (by decide) (by decide) rfl (fun ls hl => ?_)
  refine lv_goto (tgt := 157) hx hb dX10_setEnvelope_205 (by decide) ?_
  refine lv_iload hx hb dX10_setEnvelope_157 (lv_at hl 0 rfl) ?_
  refine lv_iconst (v := 4) hx hb dX10_setEnvelope_159 (by decide) ?_
  refine lv_icmp_ge (tgt := 208) hx hb dX10_setEnvelope_160 (by decide) (fun h => absurd h (by decide)) (fun _ => ?_)
  refine lv_iload hx hb dX10_setEnvelope_163 (lv_at hl 1 rfl) ?_
  refine lv_aload_n hx hb dX10_setEnvelope_165 rfl (lv_at hl 6 rfl) ?_
  refine gf_RX10_9 hx hb hown hE hP 3 rfl rfl dX10_setEnvelope_166 ?_
  refine lv_sipush (v := 474) hx hb dX10_setEnvelope_169 (by decide) ?_
  refine lv_iconst (v := 5) hx hb dX10_setEnvelope_172 (by decide) ?_
  refine lv_iload hx hb dX10_setEnvelope_173 (lv_at hl 2 rfl) ?_
  refine x_imul (v := 5) hx hb dX10_setEnvelope_175 (by decide) ?_
  refine x_iadd (v := 479) hx hb dX10_setEnvelope_176 (by decide) ?_
  refine lv_iload hx hb dX10_setEnvelope_177 (lv_at hl 0 rfl) ?_
  refine x_iadd (v := 481) hx hb dX10_setEnvelope_179 (by decide) ?_
  refine x_iald (v := x4) hx hb hE hP 0 rfl 481 (x_in (by decide)) (by decide) ((pk_un (by decide)).trans pk_us) dX10_setEnvelope_180 ?_
  refine lv_aload_n hx hb dX10_setEnvelope_181 rfl (lv_at hl 6 rfl) ?_
  refine gf_RX10_9 hx hb hown hE hP 3 rfl rfl dX10_setEnvelope_182 ?_
  refine lv_iload hx hb dX10_setEnvelope_185 (lv_at hl 4 rfl) ?_
  refine lv_iload hx hb dX10_setEnvelope_187 (lv_at hl 0 rfl) ?_
  refine x_iadd (v := 481) hx hb dX10_setEnvelope_189 (by decide) ?_
  refine x_iald (v := x4) hx hb hE hP 0 rfl 481 (x_in (by decide)) (by decide) ((pk_un (by decide)).trans pk_us) dX10_setEnvelope_190 ?_
  refine lv_icmp_ne (tgt := 198) hx hb dX10_setEnvelope_191 (by decide) (fun h => absurd h (i_nne rfl)) (fun _ => ?_)
  refine lv_iconst (v := 1) hx hb dX10_setEnvelope_194 (by decide) ?_
  refine lv_goto (tgt := 199) hx hb dX10_setEnvelope_195 (by decide) ?_
  refine x_iand (v := 1) hx hb dX10_setEnvelope_199 (by decide) ?_
  refine lv_istore (lv' := [(10, .int 1), (11, .int 2), (9, .int 1), (8, .int 1), (7, .int 479), (6, .int 1), (0, .ref q1), (1, .int 1), (2, .int x2), (3, .int x3), (4, .int x4), (5, .int x5)]) hx hb dX10_setEnvelope_200 hl (by decide) rfl (fun ls hl => ?_)
  refine lv_iinc (v := 3) (lv' := [(11, .int 3), (10, .int 1), (9, .int 1), (8, .int 1), (7, .int 479), (6, .int 1), (0, .ref q1), (1, .int 1), (2, .int x2), (3, .int x3), (4, .int x4), (5, .int x5)]) hx hb dX10_setEnvelope_202 hl (k := 1) rfl (by decide) (by decide) rfl (fun ls hl => ?_)
  refine lv_goto (tgt := 157) hx hb dX10_setEnvelope_205 (by decide) ?_
  refine lv_iload hx hb dX10_setEnvelope_157 (lv_at hl 0 rfl) ?_
  refine lv_iconst (v := 4) hx hb dX10_setEnvelope_159 (by decide) ?_
  refine lv_icmp_ge (tgt := 208) hx hb dX10_setEnvelope_160 (by decide) (fun h => absurd h (by decide)) (fun _ => ?_)
  refine lv_iload hx hb dX10_setEnvelope_163 (lv_at hl 1 rfl) ?_
  refine lv_aload_n hx hb dX10_setEnvelope_165 rfl (lv_at hl 6 rfl) ?_
  refine gf_RX10_9 hx hb hown hE hP 3 rfl rfl dX10_setEnvelope_166 ?_
  refine lv_sipush (v := 474) hx hb dX10_setEnvelope_169 (by decide) ?_
  refine lv_iconst (v := 5) hx hb dX10_setEnvelope_172 (by decide) ?_
  refine lv_iload hx hb dX10_setEnvelope_173 (lv_at hl 2 rfl) ?_
  refine x_imul (v := 5) hx hb dX10_setEnvelope_175 (by decide) ?_
  refine x_iadd (v := 479) hx hb dX10_setEnvelope_176 (by decide) ?_
  refine lv_iload hx hb dX10_setEnvelope_177 (lv_at hl 0 rfl) ?_
  refine x_iadd (v := 482) hx hb dX10_setEnvelope_179 (by decide) ?_
  refine x_iald (v := x5) hx hb hE hP 0 rfl 482 (x_in (by decide)) (by decide) pk_us dX10_setEnvelope_180 ?_
  refine lv_aload_n hx hb dX10_setEnvelope_181 rfl (lv_at hl 6 rfl) ?_
  refine gf_RX10_9 hx hb hown hE hP 3 rfl rfl dX10_setEnvelope_182 ?_
  refine lv_iload hx hb dX10_setEnvelope_185 (lv_at hl 4 rfl) ?_
  refine lv_iload hx hb dX10_setEnvelope_187 (lv_at hl 0 rfl) ?_
  refine x_iadd (v := 482) hx hb dX10_setEnvelope_189 (by decide) ?_
  refine x_iald (v := x5) hx hb hE hP 0 rfl 482 (x_in (by decide)) (by decide) pk_us dX10_setEnvelope_190 ?_
  refine lv_icmp_ne (tgt := 198) hx hb dX10_setEnvelope_191 (by decide) (fun h => absurd h (i_nne rfl)) (fun _ => ?_)
  refine lv_iconst (v := 1) hx hb dX10_setEnvelope_194 (by decide) ?_
  refine lv_goto (tgt := 199) hx hb dX10_setEnvelope_195 (by decide) ?_
  refine x_iand (v := 1) hx hb dX10_setEnvelope_199 (by decide) ?_
  refine lv_istore (lv' := [(10, .int 1), (11, .int 3), (9, .int 1), (8, .int 1), (7, .int 479), (6, .int 1), (0, .ref q1), (1, .int 1), (2, .int x2), (3, .int x3), (4, .int x4), (5, .int x5)]) hx hb dX10_setEnvelope_200 hl (by decide) rfl (fun ls hl => ?_)
  refine lv_iinc (v := 4) (lv' := [(11, .int 4), (10, .int 1), (9, .int 1), (8, .int 1), (7, .int 479), (6, .int 1), (0, .ref q1), (1, .int 1), (2, .int x2), (3, .int x3), (4, .int x4), (5, .int x5)]) hx hb dX10_setEnvelope_202 hl (k := 1) rfl (by decide) (by decide) rfl (fun ls hl => ?_)
  refine lv_goto (tgt := 157) hx hb dX10_setEnvelope_205 (by decide) ?_
  refine lv_iload hx hb dX10_setEnvelope_157 (lv_at hl 0 rfl) ?_
  refine lv_iconst (v := 4) hx hb dX10_setEnvelope_159 (by decide) ?_
  refine lv_icmp_ge (tgt := 208) hx hb dX10_setEnvelope_160 (by decide) (fun _ => ?_) (fun h => absurd (by decide) h)
  refine lv_iload hx hb dX10_setEnvelope_208 (lv_at hl 3 rfl) ?_
  refine lv_iload hx hb dX10_setEnvelope_210 (lv_at hl 1 rfl) ?_
  refine lv_if_eq (tgt := 219) hx hb dX10_setEnvelope_212 (by decide) (fun h => absurd h (by decide)) (fun _ => ?_)
  refine lv_iconst (v := 1) hx hb dX10_setEnvelope_215 (by decide) ?_
  refine lv_goto (tgt := 220) hx hb dX10_setEnvelope_216 (by decide) ?_
  refine x_iadd (v := 2) hx hb dX10_setEnvelope_220 (by decide) ?_
  refine lv_istore (lv' := [(8, .int 2), (11, .int 4), (10, .int 1), (9, .int 1), (7, .int 479), (6, .int 1), (0, .ref q1), (1, .int 1), (2, .int x2), (3, .int x3), (4, .int x4), (5, .int x5)]) hx hb dX10_setEnvelope_221 hl (by decide) rfl (fun ls hl => ?_)
  refine lv_iinc (v := 2) (lv' := [(9, .int 2), (8, .int 2), (11, .int 4), (10, .int 1), (7, .int 479), (6, .int 1), (0, .ref q1), (1, .int 1), (2, .int x2), (3, .int x3), (4, .int x4), (5, .int x5)]) hx hb dX10_setEnvelope_223 hl (k := 3) rfl (by decide) (by decide) rfl (fun ls hl => ?_)
  refine lv_goto (tgt := 145) hx hb dX10_setEnvelope_226 (by decide) ?_
  refine lv_iload hx hb dX10_setEnvelope_145 (lv_at hl 0 rfl) ?_
  refine lv_iconst (v := 4) hx hb dX10_setEnvelope_147 (by decide) ?_
  refine lv_icmp_ge (tgt := 229) hx hb dX10_setEnvelope_148 (by decide) (fun h => absurd h (by decide)) (fun _ => ?_)
  refine lv_iconst (v := 1) hx hb dX10_setEnvelope_151 (by decide) ?_
  refine lv_istore (lv' := [(10, .int 1), (9, .int 2), (8, .int 2), (11, .int 4), (7, .int 479), (6, .int 1), (0, .ref q1), (1, .int 1), (2, .int x2), (3, .int x3), (4, .int x4), (5, .int x5)]) hx hb dX10_setEnvelope_152 hl (by decide) rfl (fun ls hl => ?_)
  refine lv_iconst (v := 0) hx hb dX10_setEnvelope_154 (by decide) ?_
  refine lv_istore (lv' := [(11, .int 0), (10, .int 1), (9, .int 2), (8, .int 2), (7, .int 479), (6, .int 1), (0, .ref q1), (1, .int 1), (2, .int x2), (3, .int x3), (4, .int x4), (5, .int x5)]) hx hb dX10_setEnvelope_155 hl (by decide) rfl (fun ls hl => ?_)
  refine lv_iload hx hb dX10_setEnvelope_157 (lv_at hl 0 rfl) ?_
  refine lv_iconst (v := 4) hx hb dX10_setEnvelope_159 (by decide) ?_
  refine lv_icmp_ge (tgt := 208) hx hb dX10_setEnvelope_160 (by decide) (fun h => absurd h (by decide)) (fun _ => ?_)
  refine lv_iload hx hb dX10_setEnvelope_163 (lv_at hl 1 rfl) ?_
  refine lv_aload_n hx hb dX10_setEnvelope_165 rfl (lv_at hl 6 rfl) ?_
  refine gf_RX10_9 hx hb hown hE hP 3 rfl rfl dX10_setEnvelope_166 ?_
  refine lv_sipush (v := 474) hx hb dX10_setEnvelope_169 (by decide) ?_
  refine lv_iconst (v := 5) hx hb dX10_setEnvelope_172 (by decide) ?_
  refine lv_iload hx hb dX10_setEnvelope_173 (lv_at hl 2 rfl) ?_
  refine x_imul (v := 10) hx hb dX10_setEnvelope_175 (by decide) ?_
  refine x_iadd (v := 484) hx hb dX10_setEnvelope_176 (by decide) ?_
  refine lv_iload hx hb dX10_setEnvelope_177 (lv_at hl 0 rfl) ?_
  refine x_iadd (v := 484) hx hb dX10_setEnvelope_179 (by decide) ?_
  refine x_iald (v := 0) hx hb hE hP 0 rfl 484 (x_in (by decide)) (by decide) ((pk_un (by decide)).trans ((pk_un (by decide)).trans ((pk_un (by decide)).trans ((pk_un (by decide)).trans hf64)))) dX10_setEnvelope_180 ?_
  refine lv_aload_n hx hb dX10_setEnvelope_181 rfl (lv_at hl 6 rfl) ?_
  refine gf_RX10_9 hx hb hown hE hP 3 rfl rfl dX10_setEnvelope_182 ?_
  refine lv_iload hx hb dX10_setEnvelope_185 (lv_at hl 4 rfl) ?_
  refine lv_iload hx hb dX10_setEnvelope_187 (lv_at hl 0 rfl) ?_
  refine x_iadd (v := 479) hx hb dX10_setEnvelope_189 (by decide) ?_
  refine x_iald (v := x2) hx hb hE hP 0 rfl 479 (x_in (by decide)) (by decide) ((pk_un (by decide)).trans ((pk_un (by decide)).trans ((pk_un (by decide)).trans pk_us))) dX10_setEnvelope_190 ?_
  refine lv_icmp_ne (tgt := 198) hx hb dX10_setEnvelope_191 (by decide) (fun h => absurd h (i_nne h57)) (fun _ => ?_)
  refine lv_iconst (v := 1) hx hb dX10_setEnvelope_194 (by decide) ?_
  refine lv_goto (tgt := 199) hx hb dX10_setEnvelope_195 (by decide) ?_
  refine x_iand (v := 1) hx hb dX10_setEnvelope_199 (by decide) ?_
  refine lv_istore (lv' := [(10, .int 1), (11, .int 0), (9, .int 2), (8, .int 2), (7, .int 479), (6, .int 1), (0, .ref q1), (1, .int 1), (2, .int x2), (3, .int x3), (4, .int x4), (5, .int x5)]) hx hb dX10_setEnvelope_200 hl (by decide) rfl (fun ls hl => ?_)
  refine lv_iinc (v := 1) (lv' := [(11, .int 1), (10, .int 1), (9, .int 2), (8, .int 2), (7, .int 479), (6, .int 1), (0, .ref q1), (1, .int 1), (2, .int x2), (3, .int x3), (4, .int x4), (5, .int x5)]) hx hb dX10_setEnvelope_202 hl (k := 1) rfl (by decide) (by decide) rfl (fun ls hl => ?_)
  refine lv_goto (tgt := 157) hx hb dX10_setEnvelope_205 (by decide) ?_
  refine lv_iload hx hb dX10_setEnvelope_157 (lv_at hl 0 rfl) ?_
  refine lv_iconst (v := 4) hx hb dX10_setEnvelope_159 (by decide) ?_
  refine lv_icmp_ge (tgt := 208) hx hb dX10_setEnvelope_160 (by decide) (fun h => absurd h (by decide)) (fun _ => ?_)
  refine lv_iload hx hb dX10_setEnvelope_163 (lv_at hl 1 rfl) ?_
  refine lv_aload_n hx hb dX10_setEnvelope_165 rfl (lv_at hl 6 rfl) ?_
  refine gf_RX10_9 hx hb hown hE hP 3 rfl rfl dX10_setEnvelope_166 ?_
  refine lv_sipush (v := 474) hx hb dX10_setEnvelope_169 (by decide) ?_
  refine lv_iconst (v := 5) hx hb dX10_setEnvelope_172 (by decide) ?_
  refine lv_iload hx hb dX10_setEnvelope_173 (lv_at hl 2 rfl) ?_
  refine x_imul (v := 10) hx hb dX10_setEnvelope_175 (by decide) ?_
  refine x_iadd (v := 484) hx hb dX10_setEnvelope_176 (by decide) ?_
  refine lv_iload hx hb dX10_setEnvelope_177 (lv_at hl 0 rfl) ?_
  refine x_iadd (v := 485) hx hb dX10_setEnvelope_179 (by decide) ?_
  refine x_iald (v := 0) hx hb hE hP 0 rfl 485 (x_in (by decide)) (by decide) ((pk_un (by decide)).trans ((pk_un (by decide)).trans ((pk_un (by decide)).trans ((pk_un (by decide)).trans hf65)))) dX10_setEnvelope_180 ?_
  refine lv_aload_n hx hb dX10_setEnvelope_181 rfl (lv_at hl 6 rfl) ?_
  refine gf_RX10_9 hx hb hown hE hP 3 rfl rfl dX10_setEnvelope_182 ?_
  refine lv_iload hx hb dX10_setEnvelope_185 (lv_at hl 4 rfl) ?_
  refine lv_iload hx hb dX10_setEnvelope_187 (lv_at hl 0 rfl) ?_
  refine x_iadd (v := 480) hx hb dX10_setEnvelope_189 (by decide) ?_
  refine x_iald (v := x3) hx hb hE hP 0 rfl 480 (x_in (by decide)) (by decide) ((pk_un (by decide)).trans ((pk_un (by decide)).trans pk_us)) dX10_setEnvelope_190 ?_
  refine lv_icmp_ne (tgt := 198) hx hb dX10_setEnvelope_191 (by decide) (fun h => absurd h (i_nne h59)) (fun _ => ?_)
  refine lv_iconst (v := 1) hx hb dX10_setEnvelope_194 (by decide) ?_
  refine lv_goto (tgt := 199) hx hb dX10_setEnvelope_195 (by decide) ?_
  refine x_iand (v := 1) hx hb dX10_setEnvelope_199 (by decide) ?_
  refine lv_istore (lv' := [(10, .int 1), (11, .int 1), (9, .int 2), (8, .int 2), (7, .int 479), (6, .int 1), (0, .ref q1), (1, .int 1), (2, .int x2), (3, .int x3), (4, .int x4), (5, .int x5)]) hx hb dX10_setEnvelope_200 hl (by decide) rfl (fun ls hl => ?_)
  refine lv_iinc (v := 2) (lv' := [(11, .int 2), (10, .int 1), (9, .int 2), (8, .int 2), (7, .int 479), (6, .int 1), (0, .ref q1), (1, .int 1), (2, .int x2), (3, .int x3), (4, .int x4), (5, .int x5)]) hx hb dX10_setEnvelope_202 hl (k := 1) rfl (by decide) (by decide) rfl (fun ls hl => ?_)
  refine lv_goto (tgt := 157) hx hb dX10_setEnvelope_205 (by decide) ?_
  refine lv_iload hx hb dX10_setEnvelope_157 (lv_at hl 0 rfl) ?_
  refine lv_iconst (v := 4) hx hb dX10_setEnvelope_159 (by decide) ?_
  refine lv_icmp_ge (tgt := 208) hx hb dX10_setEnvelope_160 (by decide) (fun h => absurd h (by decide)) (fun _ => ?_)
  refine lv_iload hx hb dX10_setEnvelope_163 (lv_at hl 1 rfl) ?_
  refine lv_aload_n hx hb dX10_setEnvelope_165 rfl (lv_at hl 6 rfl) ?_
  refine gf_RX10_9 hx hb hown hE hP 3 rfl rfl dX10_setEnvelope_166 ?_
  refine lv_sipush (v := 474) hx hb dX10_setEnvelope_169 (by decide) ?_
  refine lv_iconst (v := 5) hx hb dX10_setEnvelope_172 (by decide) ?_
  refine lv_iload hx hb dX10_setEnvelope_173 (lv_at hl 2 rfl) ?_
  refine x_imul (v := 10) hx hb dX10_setEnvelope_175 (by decide) ?_
  refine x_iadd (v := 484) hx hb dX10_setEnvelope_176 (by decide) ?_
  refine lv_iload hx hb dX10_setEnvelope_177 (lv_at hl 0 rfl) ?_
  refine x_iadd (v := 486) hx hb dX10_setEnvelope_179 (by decide) ?_
  refine x_iald (v := 100) hx hb hE hP 0 rfl 486 (x_in (by decide)) (by decide) ((pk_un (by decide)).trans ((pk_un (by decide)).trans ((pk_un (by decide)).trans ((pk_un (by decide)).trans hf66)))) dX10_setEnvelope_180 ?_
  refine lv_aload_n hx hb dX10_setEnvelope_181 rfl (lv_at hl 6 rfl) ?_
  refine gf_RX10_9 hx hb hown hE hP 3 rfl rfl dX10_setEnvelope_182 ?_
  refine lv_iload hx hb dX10_setEnvelope_185 (lv_at hl 4 rfl) ?_
  refine lv_iload hx hb dX10_setEnvelope_187 (lv_at hl 0 rfl) ?_
  refine x_iadd (v := 481) hx hb dX10_setEnvelope_189 (by decide) ?_
  refine x_iald (v := x4) hx hb hE hP 0 rfl 481 (x_in (by decide)) (by decide) ((pk_un (by decide)).trans pk_us) dX10_setEnvelope_190 ?_
  refine lv_icmp_ne (tgt := 198) hx hb dX10_setEnvelope_191 (by decide) (fun h => absurd h (i_nne h61)) (fun _ => ?_)
  refine lv_iconst (v := 1) hx hb dX10_setEnvelope_194 (by decide) ?_
  refine lv_goto (tgt := 199) hx hb dX10_setEnvelope_195 (by decide) ?_
  refine x_iand (v := 1) hx hb dX10_setEnvelope_199 (by decide) ?_
  refine lv_istore (lv' := [(10, .int 1), (11, .int 2), (9, .int 2), (8, .int 2), (7, .int 479), (6, .int 1), (0, .ref q1), (1, .int 1), (2, .int x2), (3, .int x3), (4, .int x4), (5, .int x5)]) hx hb dX10_setEnvelope_200 hl (by decide) rfl (fun ls hl => ?_)
  refine lv_iinc (v := 3) (lv' := [(11, .int 3), (10, .int 1), (9, .int 2), (8, .int 2), (7, .int 479), (6, .int 1), (0, .ref q1), (1, .int 1), (2, .int x2), (3, .int x3), (4, .int x4), (5, .int x5)]) hx hb dX10_setEnvelope_202 hl (k := 1) rfl (by decide) (by decide) rfl (fun ls hl => ?_)
  refine lv_goto (tgt := 157) hx hb dX10_setEnvelope_205 (by decide) ?_
  refine lv_iload hx hb dX10_setEnvelope_157 (lv_at hl 0 rfl) ?_
  refine lv_iconst (v := 4) hx hb dX10_setEnvelope_159 (by decide) ?_
  refine lv_icmp_ge (tgt := 208) hx hb dX10_setEnvelope_160 (by decide) (fun h => absurd h (by decide)) (fun _ => ?_)
  refine lv_iload hx hb dX10_setEnvelope_163 (lv_at hl 1 rfl) ?_
  refine lv_aload_n hx hb dX10_setEnvelope_165 rfl (lv_at hl 6 rfl) ?_
  refine gf_RX10_9 hx hb hown hE hP 3 rfl rfl dX10_setEnvelope_166 ?_
  refine lv_sipush (v := 474) hx hb dX10_setEnvelope_169 (by decide) ?_
  refine lv_iconst (v := 5) hx hb dX10_setEnvelope_172 (by decide) ?_
  refine lv_iload hx hb dX10_setEnvelope_173 (lv_at hl 2 rfl) ?_
  refine x_imul (v := 10) hx hb dX10_setEnvelope_175 (by decide) ?_
  refine x_iadd (v := 484) hx hb dX10_setEnvelope_176 (by decide) ?_
  refine lv_iload hx hb dX10_setEnvelope_177 (lv_at hl 0 rfl) ?_
  refine x_iadd (v := 487) hx hb dX10_setEnvelope_179 (by decide) ?_
  refine x_iald (v := 0) hx hb hE hP 0 rfl 487 (x_in (by decide)) (by decide) ((pk_un (by decide)).trans ((pk_un (by decide)).trans ((pk_un (by decide)).trans ((pk_un (by decide)).trans hf67)))) dX10_setEnvelope_180 ?_
  refine lv_aload_n hx hb dX10_setEnvelope_181 rfl (lv_at hl 6 rfl) ?_
  refine gf_RX10_9 hx hb hown hE hP 3 rfl rfl dX10_setEnvelope_182 ?_
  refine lv_iload hx hb dX10_setEnvelope_185 (lv_at hl 4 rfl) ?_
  refine lv_iload hx hb dX10_setEnvelope_187 (lv_at hl 0 rfl) ?_
  refine x_iadd (v := 482) hx hb dX10_setEnvelope_189 (by decide) ?_
  refine x_iald (v := x5) hx hb hE hP 0 rfl 482 (x_in (by decide)) (by decide) pk_us dX10_setEnvelope_190 ?_
  refine lv_icmp_ne (tgt := 198) hx hb dX10_setEnvelope_191 (by decide) (fun h => absurd h (i_nne h63)) (fun _ => ?_)
  refine lv_iconst (v := 1) hx hb dX10_setEnvelope_194 (by decide) ?_
  refine lv_goto (tgt := 199) hx hb dX10_setEnvelope_195 (by decide) ?_
  refine x_iand (v := 1) hx hb dX10_setEnvelope_199 (by decide) ?_
  refine lv_istore (lv' := [(10, .int 1), (11, .int 3), (9, .int 2), (8, .int 2), (7, .int 479), (6, .int 1), (0, .ref q1), (1, .int 1), (2, .int x2), (3, .int x3), (4, .int x4), (5, .int x5)]) hx hb dX10_setEnvelope_200 hl (by decide) rfl (fun ls hl => ?_)
  refine lv_iinc (v := 4) (lv' := [(11, .int 4), (10, .int 1), (9, .int 2), (8, .int 2), (7, .int 479), (6, .int 1), (0, .ref q1), (1, .int 1), (2, .int x2), (3, .int x3), (4, .int x4), (5, .int x5)]) hx hb dX10_setEnvelope_202 hl (k := 1) rfl (by decide) (by decide) rfl (fun ls hl => ?_)
  refine lv_goto (tgt := 157) hx hb dX10_setEnvelope_205 (by decide) ?_
  refine lv_iload hx hb dX10_setEnvelope_157 (lv_at hl 0 rfl) ?_
  refine lv_iconst (v := 4) hx hb dX10_setEnvelope_159 (by decide) ?_
  refine lv_icmp_ge (tgt := 208) hx hb dX10_setEnvelope_160 (by decide) (fun _ => ?_) (fun h => absurd (by decide) h)
  refine lv_iload hx hb dX10_setEnvelope_208 (lv_at hl 3 rfl) ?_
  refine lv_iload hx hb dX10_setEnvelope_210 (lv_at hl 1 rfl) ?_
  refine lv_if_eq (tgt := 219) hx hb dX10_setEnvelope_212 (by decide) (fun h => absurd h (by decide)) (fun _ => ?_)
  refine lv_iconst (v := 1) hx hb dX10_setEnvelope_215 (by decide) ?_
  refine lv_goto (tgt := 220) hx hb dX10_setEnvelope_216 (by decide) ?_
  refine x_iadd (v := 3) hx hb dX10_setEnvelope_220 (by decide) ?_
  refine lv_istore (lv' := [(8, .int 3), (11, .int 4), (10, .int 1), (9, .int 2), (7, .int 479), (6, .int 1), (0, .ref q1), (1, .int 1), (2, .int x2), (3, .int x3), (4, .int x4), (5, .int x5)]) hx hb dX10_setEnvelope_221 hl (by decide) rfl (fun ls hl => ?_)
  refine lv_iinc (v := 3) (lv' := [(9, .int 3), (8, .int 3), (11, .int 4), (10, .int 1), (7, .int 479), (6, .int 1), (0, .ref q1), (1, .int 1), (2, .int x2), (3, .int x3), (4, .int x4), (5, .int x5)]) hx hb dX10_setEnvelope_223 hl (k := 3) rfl (by decide) (by decide) rfl (fun ls hl => ?_)
  refine lv_goto (tgt := 145) hx hb dX10_setEnvelope_226 (by decide) ?_
  refine lv_iload hx hb dX10_setEnvelope_145 (lv_at hl 0 rfl) ?_
  refine lv_iconst (v := 4) hx hb dX10_setEnvelope_147 (by decide) ?_
  refine lv_icmp_ge (tgt := 229) hx hb dX10_setEnvelope_148 (by decide) (fun h => absurd h (by decide)) (fun _ => ?_)
  refine lv_iconst (v := 1) hx hb dX10_setEnvelope_151 (by decide) ?_
  refine lv_istore (lv' := [(10, .int 1), (9, .int 3), (8, .int 3), (11, .int 4), (7, .int 479), (6, .int 1), (0, .ref q1), (1, .int 1), (2, .int x2), (3, .int x3), (4, .int x4), (5, .int x5)]) hx hb dX10_setEnvelope_152 hl (by decide) rfl (fun ls hl => ?_)
  refine lv_iconst (v := 0) hx hb dX10_setEnvelope_154 (by decide) ?_
  refine lv_istore (lv' := [(11, .int 0), (10, .int 1), (9, .int 3), (8, .int 3), (7, .int 479), (6, .int 1), (0, .ref q1), (1, .int 1), (2, .int x2), (3, .int x3), (4, .int x4), (5, .int x5)]) hx hb dX10_setEnvelope_155 hl (by decide) rfl (fun ls hl => ?_)
  refine lv_iload hx hb dX10_setEnvelope_157 (lv_at hl 0 rfl) ?_
  refine lv_iconst (v := 4) hx hb dX10_setEnvelope_159 (by decide) ?_
  refine lv_icmp_ge (tgt := 208) hx hb dX10_setEnvelope_160 (by decide) (fun h => absurd h (by decide)) (fun _ => ?_)
  refine lv_iload hx hb dX10_setEnvelope_163 (lv_at hl 1 rfl) ?_
  refine lv_aload_n hx hb dX10_setEnvelope_165 rfl (lv_at hl 6 rfl) ?_
  refine gf_RX10_9 hx hb hown hE hP 3 rfl rfl dX10_setEnvelope_166 ?_
  refine lv_sipush (v := 474) hx hb dX10_setEnvelope_169 (by decide) ?_
  refine lv_iconst (v := 5) hx hb dX10_setEnvelope_172 (by decide) ?_
  refine lv_iload hx hb dX10_setEnvelope_173 (lv_at hl 2 rfl) ?_
  refine x_imul (v := 15) hx hb dX10_setEnvelope_175 (by decide) ?_
  refine x_iadd (v := 489) hx hb dX10_setEnvelope_176 (by decide) ?_
  refine lv_iload hx hb dX10_setEnvelope_177 (lv_at hl 0 rfl) ?_
  refine x_iadd (v := 489) hx hb dX10_setEnvelope_179 (by decide) ?_
  refine x_iald (v := 0) hx hb hE hP 0 rfl 489 (x_in (by decide)) (by decide) ((pk_un (by decide)).trans ((pk_un (by decide)).trans ((pk_un (by decide)).trans ((pk_un (by decide)).trans hf68)))) dX10_setEnvelope_180 ?_
  refine lv_aload_n hx hb dX10_setEnvelope_181 rfl (lv_at hl 6 rfl) ?_
  refine gf_RX10_9 hx hb hown hE hP 3 rfl rfl dX10_setEnvelope_182 ?_
  refine lv_iload hx hb dX10_setEnvelope_185 (lv_at hl 4 rfl) ?_
  refine lv_iload hx hb dX10_setEnvelope_187 (lv_at hl 0 rfl) ?_
  refine x_iadd (v := 479) hx hb dX10_setEnvelope_189 (by decide) ?_
  refine x_iald (v := x2) hx hb hE hP 0 rfl 479 (x_in (by decide)) (by decide) ((pk_un (by decide)).trans ((pk_un (by decide)).trans ((pk_un (by decide)).trans pk_us))) dX10_setEnvelope_190 ?_
  refine lv_icmp_ne (tgt := 198) hx hb dX10_setEnvelope_191 (by decide) (fun h => absurd h (i_nne h57)) (fun _ => ?_)
  refine lv_iconst (v := 1) hx hb dX10_setEnvelope_194 (by decide) ?_
  refine lv_goto (tgt := 199) hx hb dX10_setEnvelope_195 (by decide) ?_
  refine x_iand (v := 1) hx hb dX10_setEnvelope_199 (by decide) ?_
  refine lv_istore (lv' := [(10, .int 1), (11, .int 0), (9, .int 3), (8, .int 3), (7, .int 479), (6, .int 1), (0, .ref q1), (1, .int 1), (2, .int x2), (3, .int x3), (4, .int x4), (5, .int x5)]) hx hb dX10_setEnvelope_200 hl (by decide) rfl (fun ls hl => ?_)
  refine lv_iinc (v := 1) (lv' := [(11, .int 1), (10, .int 1), (9, .int 3), (8, .int 3), (7, .int 479), (6, .int 1), (0, .ref q1), (1, .int 1), (2, .int x2), (3, .int x3), (4, .int x4), (5, .int x5)]) hx hb dX10_setEnvelope_202 hl (k := 1) rfl (by decide) (by decide) rfl (fun ls hl => ?_)
  refine lv_goto (tgt := 157) hx hb dX10_setEnvelope_205 (by decide) ?_
  refine lv_iload hx hb dX10_setEnvelope_157 (lv_at hl 0 rfl) ?_
  refine lv_iconst (v := 4) hx hb dX10_setEnvelope_159 (by decide) ?_
  refine lv_icmp_ge (tgt := 208) hx hb dX10_setEnvelope_160 (by decide) (fun h => absurd h (by decide)) (fun _ => ?_)
  refine lv_iload hx hb dX10_setEnvelope_163 (lv_at hl 1 rfl) ?_
  refine lv_aload_n hx hb dX10_setEnvelope_165 rfl (lv_at hl 6 rfl) ?_
  refine gf_RX10_9 hx hb hown hE hP 3 rfl rfl dX10_setEnvelope_166 ?_
  refine lv_sipush (v := 474) hx hb dX10_setEnvelope_169 (by decide) ?_
  refine lv_iconst (v := 5) hx hb dX10_setEnvelope_172 (by decide) ?_
  refine lv_iload hx hb dX10_setEnvelope_173 (lv_at hl 2 rfl) ?_
  refine x_imul (v := 15) hx hb dX10_setEnvelope_175 (by decide) ?_
  refine x_iadd (v := 489) hx hb dX10_setEnvelope_176 (by decide) ?_
  refine lv_iload hx hb dX10_setEnvelope_177 (lv_at hl 0 rfl) ?_
  refine x_iadd (v := 490) hx hb dX10_setEnvelope_179 (by decide) ?_
  refine x_iald (v := 0) hx hb hE hP 0 rfl 490 (x_in (by decide)) (by decide) ((pk_un (by decide)).trans ((pk_un (by decide)).trans ((pk_un (by decide)).trans ((pk_un (by decide)).trans hf69)))) dX10_setEnvelope_180 ?_
  refine lv_aload_n hx hb dX10_setEnvelope_181 rfl (lv_at hl 6 rfl) ?_
  refine gf_RX10_9 hx hb hown hE hP 3 rfl rfl dX10_setEnvelope_182 ?_
  refine lv_iload hx hb dX10_setEnvelope_185 (lv_at hl 4 rfl) ?_
  refine lv_iload hx hb dX10_setEnvelope_187 (lv_at hl 0 rfl) ?_
  refine x_iadd (v := 480) hx hb dX10_setEnvelope_189 (by decide) ?_
  refine x_iald (v := x3) hx hb hE hP 0 rfl 480 (x_in (by decide)) (by decide) ((pk_un (by decide)).trans ((pk_un (by decide)).trans pk_us)) dX10_setEnvelope_190 ?_
  refine lv_icmp_ne (tgt := 198) hx hb dX10_setEnvelope_191 (by decide) (fun h => absurd h (i_nne h59)) (fun _ => ?_)
  refine lv_iconst (v := 1) hx hb dX10_setEnvelope_194 (by decide) ?_
  refine lv_goto (tgt := 199) hx hb dX10_setEnvelope_195 (by decide) ?_
  refine x_iand (v := 1) hx hb dX10_setEnvelope_199 (by decide) ?_
  refine lv_istore (lv' := [(10, .int 1), (11, .int 1), (9, .int 3), (8, .int 3), (7, .int 479), (6, .int 1), (0, .ref q1), (1, .int 1), (2, .int x2), (3, .int x3), (4, .int x4), (5, .int x5)]) hx hb dX10_setEnvelope_200 hl (by decide) rfl (fun ls hl => ?_)
  refine lv_iinc (v := 2) (lv' := [(11, .int 2), (10, .int 1), (9, .int 3), (8, .int 3), (7, .int 479), (6, .int 1), (0, .ref q1), (1, .int 1), (2, .int x2), (3, .int x3), (4, .int x4), (5, .int x5)]) hx hb dX10_setEnvelope_202 hl (k := 1) rfl (by decide) (by decide) rfl (fun ls hl => ?_)
  refine lv_goto (tgt := 157) hx hb dX10_setEnvelope_205 (by decide) ?_
  refine lv_iload hx hb dX10_setEnvelope_157 (lv_at hl 0 rfl) ?_
  refine lv_iconst (v := 4) hx hb dX10_setEnvelope_159 (by decide) ?_
  refine lv_icmp_ge (tgt := 208) hx hb dX10_setEnvelope_160 (by decide) (fun h => absurd h (by decide)) (fun _ => ?_)
  refine lv_iload hx hb dX10_setEnvelope_163 (lv_at hl 1 rfl) ?_
  refine lv_aload_n hx hb dX10_setEnvelope_165 rfl (lv_at hl 6 rfl) ?_
  refine gf_RX10_9 hx hb hown hE hP 3 rfl rfl dX10_setEnvelope_166 ?_
  refine lv_sipush (v := 474) hx hb dX10_setEnvelope_169 (by decide) ?_
  refine lv_iconst (v := 5) hx hb dX10_setEnvelope_172 (by decide) ?_
  refine lv_iload hx hb dX10_setEnvelope_173 (lv_at hl 2 rfl) ?_
  refine x_imul (v := 15) hx hb dX10_setEnvelope_175 (by decide) ?_
  refine x_iadd (v := 489) hx hb dX10_setEnvelope_176 (by decide) ?_
  refine lv_iload hx hb dX10_setEnvelope_177 (lv_at hl 0 rfl) ?_
  refine x_iadd (v := 491) hx hb dX10_setEnvelope_179 (by decide) ?_
  refine x_iald (v := 100) hx hb hE hP 0 rfl 491 (x_in (by decide)) (by decide) ((pk_un (by decide)).trans ((pk_un (by decide)).trans ((pk_un (by decide)).trans ((pk_un (by decide)).trans hf70)))) dX10_setEnvelope_180 ?_
  refine lv_aload_n hx hb dX10_setEnvelope_181 rfl (lv_at hl 6 rfl) ?_
  refine gf_RX10_9 hx hb hown hE hP 3 rfl rfl dX10_setEnvelope_182 ?_
  refine lv_iload hx hb dX10_setEnvelope_185 (lv_at hl 4 rfl) ?_
  refine lv_iload hx hb dX10_setEnvelope_187 (lv_at hl 0 rfl) ?_
  refine x_iadd (v := 481) hx hb dX10_setEnvelope_189 (by decide) ?_
  refine x_iald (v := x4) hx hb hE hP 0 rfl 481 (x_in (by decide)) (by decide) ((pk_un (by decide)).trans pk_us) dX10_setEnvelope_190 ?_
  refine lv_icmp_ne (tgt := 198) hx hb dX10_setEnvelope_191 (by decide) (fun h => absurd h (i_nne h61)) (fun _ => ?_)
  refine lv_iconst (v := 1) hx hb dX10_setEnvelope_194 (by decide) ?_
  refine lv_goto (tgt := 199) hx hb dX10_setEnvelope_195 (by decide) ?_
  refine x_iand (v := 1) hx hb dX10_setEnvelope_199 (by decide) ?_
  refine lv_istore (lv' := [(10, .int 1), (11, .int 2), (9, .int 3), (8, .int 3), (7, .int 479), (6, .int 1), (0, .ref q1), (1, .int 1), (2, .int x2), (3, .int x3), (4, .int x4), (5, .int x5)]) hx hb dX10_setEnvelope_200 hl (by decide) rfl (fun ls hl => ?_)
  refine lv_iinc (v := 3) (lv' := [(11, .int 3), (10, .int 1), (9, .int 3), (8, .int 3), (7, .int 479), (6, .int 1), (0, .ref q1), (1, .int 1), (2, .int x2), (3, .int x3), (4, .int x4), (5, .int x5)]) hx hb dX10_setEnvelope_202 hl (k := 1) rfl (by decide) (by decide) rfl (fun ls hl => ?_)
  refine lv_goto (tgt := 157) hx hb dX10_setEnvelope_205 (by decide) ?_
  refine lv_iload hx hb dX10_setEnvelope_157 (lv_at hl 0 rfl) ?_
  refine lv_iconst (v := 4) hx hb dX10_setEnvelope_159 (by decide) ?_
  refine lv_icmp_ge (tgt := 208) hx hb dX10_setEnvelope_160 (by decide) (fun h => absurd h (by decide)) (fun _ => ?_)
  refine lv_iload hx hb dX10_setEnvelope_163 (lv_at hl 1 rfl) ?_
  refine lv_aload_n hx hb dX10_setEnvelope_165 rfl (lv_at hl 6 rfl) ?_
  refine gf_RX10_9 hx hb hown hE hP 3 rfl rfl dX10_setEnvelope_166 ?_
  refine lv_sipush (v := 474) hx hb dX10_setEnvelope_169 (by decide) ?_
  refine lv_iconst (v := 5) hx hb dX10_setEnvelope_172 (by decide) ?_
  refine lv_iload hx hb dX10_setEnvelope_173 (lv_at hl 2 rfl) ?_
  refine x_imul (v := 15) hx hb dX10_setEnvelope_175 (by decide) ?_
  refine x_iadd (v := 489) hx hb dX10_setEnvelope_176 (by decide) ?_
  refine lv_iload hx hb dX10_setEnvelope_177 (lv_at hl 0 rfl) ?_
  refine x_iadd (v := 492) hx hb dX10_setEnvelope_179 (by decide) ?_
  refine x_iald (v := 0) hx hb hE hP 0 rfl 492 (x_in (by decide)) (by decide) ((pk_un (by decide)).trans ((pk_un (by decide)).trans ((pk_un (by decide)).trans ((pk_un (by decide)).trans hf71)))) dX10_setEnvelope_180 ?_
  refine lv_aload_n hx hb dX10_setEnvelope_181 rfl (lv_at hl 6 rfl) ?_
  refine gf_RX10_9 hx hb hown hE hP 3 rfl rfl dX10_setEnvelope_182 ?_
  refine lv_iload hx hb dX10_setEnvelope_185 (lv_at hl 4 rfl) ?_
  refine lv_iload hx hb dX10_setEnvelope_187 (lv_at hl 0 rfl) ?_
  refine x_iadd (v := 482) hx hb dX10_setEnvelope_189 (by decide) ?_
  refine x_iald (v := x5) hx hb hE hP 0 rfl 482 (x_in (by decide)) (by decide) pk_us dX10_setEnvelope_190 ?_
  refine lv_icmp_ne (tgt := 198) hx hb dX10_setEnvelope_191 (by decide) (fun h => absurd h (i_nne h63)) (fun _ => ?_)
  refine lv_iconst (v := 1) hx hb dX10_setEnvelope_194 (by decide) ?_
  refine lv_goto (tgt := 199) hx hb dX10_setEnvelope_195 (by decide) ?_
  refine x_iand (v := 1) hx hb dX10_setEnvelope_199 (by decide) ?_
  refine lv_istore (lv' := [(10, .int 1), (11, .int 3), (9, .int 3), (8, .int 3), (7, .int 479), (6, .int 1), (0, .ref q1), (1, .int 1), (2, .int x2), (3, .int x3), (4, .int x4), (5, .int x5)]) hx hb dX10_setEnvelope_200 hl (by decide) rfl (fun ls hl => ?_)
  refine lv_iinc (v := 4) (lv' := [(11, .int 4), (10, .int 1), (9, .int 3), (8, .int 3), (7, .int 479), (6, .int 1), (0, .ref q1), (1, .int 1), (2, .int x2), (3, .int x3), (4, .int x4), (5, .int x5)]) hx hb dX10_setEnvelope_202 hl (k := 1) rfl (by decide) (by decide) rfl (fun ls hl => ?_)
  refine lv_goto (tgt := 157) hx hb dX10_setEnvelope_205 (by decide) ?_
  refine lv_iload hx hb dX10_setEnvelope_157 (lv_at hl 0 rfl) ?_
  refine lv_iconst (v := 4) hx hb dX10_setEnvelope_159 (by decide) ?_
  refine lv_icmp_ge (tgt := 208) hx hb dX10_setEnvelope_160 (by decide) (fun _ => ?_) (fun h => absurd (by decide) h)
  refine lv_iload hx hb dX10_setEnvelope_208 (lv_at hl 3 rfl) ?_
  refine lv_iload hx hb dX10_setEnvelope_210 (lv_at hl 1 rfl) ?_
  refine lv_if_eq (tgt := 219) hx hb dX10_setEnvelope_212 (by decide) (fun h => absurd h (by decide)) (fun _ => ?_)
  refine lv_iconst (v := 1) hx hb dX10_setEnvelope_215 (by decide) ?_
  refine lv_goto (tgt := 220) hx hb dX10_setEnvelope_216 (by decide) ?_
  refine x_iadd (v := 4) hx hb dX10_setEnvelope_220 (by decide) ?_
  refine lv_istore (lv' := [(8, .int 4), (11, .int 4), (10, .int 1), (9, .int 3), (7, .int 479), (6, .int 1), (0, .ref q1), (1, .int 1), (2, .int x2), (3, .int x3), (4, .int x4), (5, .int x5)]) hx hb dX10_setEnvelope_221 hl (by decide) rfl (fun ls hl => ?_)
  refine lv_iinc (v := 4) (lv' := [(9, .int 4), (8, .int 4), (11, .int 4), (10, .int 1), (7, .int 479), (6, .int 1), (0, .ref q1), (1, .int 1), (2, .int x2), (3, .int x3), (4, .int x4), (5, .int x5)]) hx hb dX10_setEnvelope_223 hl (k := 3) rfl (by decide) (by decide) rfl (fun ls hl => ?_)
  refine lv_goto (tgt := 145) hx hb dX10_setEnvelope_226 (by decide) ?_
  refine lv_iload hx hb dX10_setEnvelope_145 (lv_at hl 0 rfl) ?_
  refine lv_iconst (v := 4) hx hb dX10_setEnvelope_147 (by decide) ?_
  refine lv_icmp_ge (tgt := 229) hx hb dX10_setEnvelope_148 (by decide) (fun _ => ?_) (fun h => absurd (by decide) h)
  refine lv_iload hx hb dX10_setEnvelope_229 (lv_at hl 1 rfl) ?_
  exact x_zret hx hb hr rfl rfl hlocks hP hD hS hAe hsz (Nat.le_of_ble_eq_true rfl) (Nat.le_of_ble_eq_true rfl) (fun _ => 0) [3] (by decide) rfl dX10_setEnvelope_231

set_option maxHeartbeats 4000000 in
set_option maxRecDepth 100000 in
theorem c1952_X6_hasSameEnvelope (l : Launch) (g : gG) (q1 q9 : Nat) (x12 x16 x20 x24 : Int32) (w2 w3 w4 w6 w7 w8 : Value) (f10 : Nat → Int32) (hf11 : f10 5 = x12) (hf13 : f10 0 = 0) (hf15 : f10 6 = x16) (hf17 : f10 1 = 0) (hf19 : f10 7 = x20) (hf21 : f10 2 = 100) (hf23 : f10 8 = x24) (hf25 : f10 3 = 0) (h14 : x12 = 0) (h18 : x16 = 0) (h22 : x20 = 100) (h26 : ¬ x24 = 0) (sz : Nat) : Met l yX6_hasSameEnvelope [Cond.code yX6_hasSameEnvelope cX6_hasSameEnvelope 4 (some .boolean)] ({ frames := 1, cells := 0, slots := 0, locals := 23 } : Room) (va_Pc [.ref q1, .int 1, .int 0] (PX g sz [(q9, .inl (g.2 0, 20, .inl f10)), (q1, .inr (8, [w2, w3, w4, .ref q9, w6, w7, w8]))])) (QI g [(q9, .inl (g.2 0, 20, .inl f10)), (q1, .inr (8, [w2, w3, w4, .ref q9, w6, w7, w8]))] sz 0 (fun _ => [(q9, .inl (g.2 0, 20, .inl f10)), (q1, .inr (8, [w2, w3, w4, .ref q9, w6, w7, w8]))])) 0 0 (va_A [(q9, .inl (g.2 0, 20, .inl f10)), (q1, .inr (8, [w2, w3, w4, .ref q9, w6, w7, w8]))] sz) := by
  refine ofN (by decide) (Nat.le_of_ble_eq_true rfl) rfl ?_
  intro p e s m args below meth c A ls hAe hsz hx hb hml hr hlocks hin hown hE hP hD hA hS hl
  have hown : s.vm.findClass RX6 = some m.cls := hown
  refine lv_iconst (v := 0) hx hb dX6_hasSameEnvelope_0 (by decide) ?_
  refine lv_istore_n (lv' := [(3, .int 0), (0, .ref q1), (1, .int 1), (2, .int 0)]) hx hb dX6_hasSameEnvelope_1 rfl hl (by decide) rfl (fun ls hl => ?_)
  refine lv_iload_n hx hb dX6_hasSameEnvelope_2 rfl (lv_at hl 0 rfl) ?_
  refine lv_iconst (v := 3) hx hb dX6_hasSameEnvelope_3 (by decide) ?_
  refine lv_icmp_gt (tgt := 30) hx hb dX6_hasSameEnvelope_4 (by decide) (fun h => absurd h (by decide)) (fun _ => ?_)
  refine lv_aload_n hx hb dX6_hasSameEnvelope_7 rfl (lv_at hl 1 rfl) ?_
  refine lv_iload_n hx hb dX6_hasSameEnvelope_8 rfl (lv_at hl 2 rfl) ?_
  refine lv_iload_n hx hb dX6_hasSameEnvelope_9 rfl (lv_at hl 0 rfl) ?_
  refine g_i (wr := []) (rV (rest := []) hx hb hml hown hE hP hD 1 rfl rfl (c1940_X6_instrumentNumber l g q1 q9 x12 w2 w3 w4 w6 w7 w8 f10 (hf11) s.heap.size) (kV_X6_instrumentNumber hE (e462 hE) rfl rfl ⟨(Nat.le_of_ble_eq_true rfl), (Nat.le_of_ble_eq_true rfl)⟩) [0, 1] rfl (by decide) rfl hl.1 rfl (lv_room (Nat.le_of_ble_eq_true rfl)) dX6_hasSameEnvelope_10 ⟨(Nat.le_of_ble_eq_true rfl), (Nat.le_of_ble_eq_true rfl)⟩) hP hD hS hA [0, 1] [] rfl rfl (by decide) (by decide) (fun u1 H locs hP hD hS => ?_)
  have hP : va_P g.1 vwCl [(q9, .inl (g.2 0, 20, .inl f10)), (q1, .inr (8, [w2, w3, w4, .ref q9, w6, w7, w8]))] H := hP
  have hD : va_D A [(q9, .inl (g.2 0, 20, .inl f10)), (q1, .inr (8, [w2, w3, w4, .ref q9, w6, w7, w8]))] := hD
  refine lv_aload_n hx hb dX6_hasSameEnvelope_13 rfl (lv_at hl 1 rfl) ?_
  refine lv_iload_n hx hb dX6_hasSameEnvelope_14 rfl (lv_at hl 3 rfl) ?_
  refine lv_iload_n hx hb dX6_hasSameEnvelope_15 rfl (lv_at hl 0 rfl) ?_
  refine g_i (wr := []) (rV (rest := [.int x12]) hx hb hml hown hE hP hD 1 rfl rfl (c1879_X6_instrumentNumber l g q1 q9 0 w2 w3 w4 w6 w7 w8 f10 (hf13) H.size) (kV_X6_instrumentNumber hE (e462 hE) rfl rfl ⟨(Nat.le_of_ble_eq_true rfl), (Nat.le_of_ble_eq_true rfl)⟩) [0, 1] rfl (by decide) rfl hl.1 rfl (lv_room (Nat.le_of_ble_eq_true rfl)) dX6_hasSameEnvelope_16 ⟨(Nat.le_of_ble_eq_true rfl), (Nat.le_of_ble_eq_true rfl)⟩) hP hD hS hA [0, 1] [] rfl rfl (by decide) (by decide) (fun u2 H locs hP hD hS => ?_)
  have hP : va_P g.1 vwCl [(q9, .inl (g.2 0, 20, .inl f10)), (q1, .inr (8, [w2, w3, w4, .ref q9, w6, w7, w8]))] H := hP
  have hD : va_D A [(q9, .inl (g.2 0, 20, .inl f10)), (q1, .inr (8, [w2, w3, w4, .ref q9, w6, w7, w8]))] := hD
  refine lv_icmp_eq (tgt := 24) hx hb dX6_hasSameEnvelope_19 (by decide) (fun _ => ?_) (fun h => absurd h14 h)
  refine lv_iinc (v := 1) (lv' := [(3, .int 1), (0, .ref q1), (1, .int 1), (2, .int 0)]) hx hb dX6_hasSameEnvelope_24 hl (k := 0) rfl (by decide) (by decide) rfl (fun ls hl => ?_)
  refine lv_goto (tgt := 2) hx hb dX6_hasSameEnvelope_27 (by decide) ?_
  refine lv_iload_n hx hb dX6_hasSameEnvelope_2 rfl (lv_at hl 0 rfl) ?_
  refine lv_iconst (v := 3) hx hb dX6_hasSameEnvelope_3 (by decide) ?_
  refine lv_icmp_gt (tgt := 30) hx hb dX6_hasSameEnvelope_4 (by decide) (fun h => absurd h (by decide)) (fun _ => ?_)
  refine lv_aload_n hx hb dX6_hasSameEnvelope_7 rfl (lv_at hl 1 rfl) ?_
  refine lv_iload_n hx hb dX6_hasSameEnvelope_8 rfl (lv_at hl 2 rfl) ?_
  refine lv_iload_n hx hb dX6_hasSameEnvelope_9 rfl (lv_at hl 0 rfl) ?_
  refine g_i (wr := []) (rV (rest := []) hx hb hml hown hE hP hD 1 rfl rfl (c1941_X6_instrumentNumber l g q1 q9 x16 w2 w3 w4 w6 w7 w8 f10 (hf15) H.size) (kV_X6_instrumentNumber hE (e462 hE) rfl rfl ⟨(Nat.le_of_ble_eq_true rfl), (Nat.le_of_ble_eq_true rfl)⟩) [0, 1] rfl (by decide) rfl hl.1 rfl (lv_room (Nat.le_of_ble_eq_true rfl)) dX6_hasSameEnvelope_10 ⟨(Nat.le_of_ble_eq_true rfl), (Nat.le_of_ble_eq_true rfl)⟩) hP hD hS hA [0, 1] [] rfl rfl (by decide) (by decide) (fun u3 H locs hP hD hS => ?_)
  have hP : va_P g.1 vwCl [(q9, .inl (g.2 0, 20, .inl f10)), (q1, .inr (8, [w2, w3, w4, .ref q9, w6, w7, w8]))] H := hP
  have hD : va_D A [(q9, .inl (g.2 0, 20, .inl f10)), (q1, .inr (8, [w2, w3, w4, .ref q9, w6, w7, w8]))] := hD
  refine lv_aload_n hx hb dX6_hasSameEnvelope_13 rfl (lv_at hl 1 rfl) ?_
  refine lv_iload_n hx hb dX6_hasSameEnvelope_14 rfl (lv_at hl 3 rfl) ?_
  refine lv_iload_n hx hb dX6_hasSameEnvelope_15 rfl (lv_at hl 0 rfl) ?_
  refine g_i (wr := []) (rV (rest := [.int x16]) hx hb hml hown hE hP hD 1 rfl rfl (c1880_X6_instrumentNumber l g q1 q9 0 w2 w3 w4 w6 w7 w8 f10 (hf17) H.size) (kV_X6_instrumentNumber hE (e462 hE) rfl rfl ⟨(Nat.le_of_ble_eq_true rfl), (Nat.le_of_ble_eq_true rfl)⟩) [0, 1] rfl (by decide) rfl hl.1 rfl (lv_room (Nat.le_of_ble_eq_true rfl)) dX6_hasSameEnvelope_16 ⟨(Nat.le_of_ble_eq_true rfl), (Nat.le_of_ble_eq_true rfl)⟩) hP hD hS hA [0, 1] [] rfl rfl (by decide) (by decide) (fun u4 H locs hP hD hS => ?_)
  have hP : va_P g.1 vwCl [(q9, .inl (g.2 0, 20, .inl f10)), (q1, .inr (8, [w2, w3, w4, .ref q9, w6, w7, w8]))] H := hP
  have hD : va_D A [(q9, .inl (g.2 0, 20, .inl f10)), (q1, .inr (8, [w2, w3, w4, .ref q9, w6, w7, w8]))] := hD
  refine lv_icmp_eq (tgt := 24) hx hb dX6_hasSameEnvelope_19 (by decide) (fun _ => ?_) (fun h => absurd h18 h)
  refine lv_iinc (v := 2) (lv' := [(3, .int 2), (0, .ref q1), (1, .int 1), (2, .int 0)]) hx hb dX6_hasSameEnvelope_24 hl (k := 0) rfl (by decide) (by decide) rfl (fun ls hl => ?_)
  refine lv_goto (tgt := 2) hx hb dX6_hasSameEnvelope_27 (by decide) ?_
  refine lv_iload_n hx hb dX6_hasSameEnvelope_2 rfl (lv_at hl 0 rfl) ?_
  refine lv_iconst (v := 3) hx hb dX6_hasSameEnvelope_3 (by decide) ?_
  refine lv_icmp_gt (tgt := 30) hx hb dX6_hasSameEnvelope_4 (by decide) (fun h => absurd h (by decide)) (fun _ => ?_)
  refine lv_aload_n hx hb dX6_hasSameEnvelope_7 rfl (lv_at hl 1 rfl) ?_
  refine lv_iload_n hx hb dX6_hasSameEnvelope_8 rfl (lv_at hl 2 rfl) ?_
  refine lv_iload_n hx hb dX6_hasSameEnvelope_9 rfl (lv_at hl 0 rfl) ?_
  refine g_i (wr := []) (rV (rest := []) hx hb hml hown hE hP hD 1 rfl rfl (c1942_X6_instrumentNumber l g q1 q9 x20 w2 w3 w4 w6 w7 w8 f10 (hf19) H.size) (kV_X6_instrumentNumber hE (e462 hE) rfl rfl ⟨(Nat.le_of_ble_eq_true rfl), (Nat.le_of_ble_eq_true rfl)⟩) [0, 1] rfl (by decide) rfl hl.1 rfl (lv_room (Nat.le_of_ble_eq_true rfl)) dX6_hasSameEnvelope_10 ⟨(Nat.le_of_ble_eq_true rfl), (Nat.le_of_ble_eq_true rfl)⟩) hP hD hS hA [0, 1] [] rfl rfl (by decide) (by decide) (fun u5 H locs hP hD hS => ?_)
  have hP : va_P g.1 vwCl [(q9, .inl (g.2 0, 20, .inl f10)), (q1, .inr (8, [w2, w3, w4, .ref q9, w6, w7, w8]))] H := hP
  have hD : va_D A [(q9, .inl (g.2 0, 20, .inl f10)), (q1, .inr (8, [w2, w3, w4, .ref q9, w6, w7, w8]))] := hD
  refine lv_aload_n hx hb dX6_hasSameEnvelope_13 rfl (lv_at hl 1 rfl) ?_
  refine lv_iload_n hx hb dX6_hasSameEnvelope_14 rfl (lv_at hl 3 rfl) ?_
  refine lv_iload_n hx hb dX6_hasSameEnvelope_15 rfl (lv_at hl 0 rfl) ?_
  refine g_i (wr := []) (rV (rest := [.int x20]) hx hb hml hown hE hP hD 1 rfl rfl (c1881_X6_instrumentNumber l g q1 q9 100 w2 w3 w4 w6 w7 w8 f10 (hf21) H.size) (kV_X6_instrumentNumber hE (e462 hE) rfl rfl ⟨(Nat.le_of_ble_eq_true rfl), (Nat.le_of_ble_eq_true rfl)⟩) [0, 1] rfl (by decide) rfl hl.1 rfl (lv_room (Nat.le_of_ble_eq_true rfl)) dX6_hasSameEnvelope_16 ⟨(Nat.le_of_ble_eq_true rfl), (Nat.le_of_ble_eq_true rfl)⟩) hP hD hS hA [0, 1] [] rfl rfl (by decide) (by decide) (fun u6 H locs hP hD hS => ?_)
  have hP : va_P g.1 vwCl [(q9, .inl (g.2 0, 20, .inl f10)), (q1, .inr (8, [w2, w3, w4, .ref q9, w6, w7, w8]))] H := hP
  have hD : va_D A [(q9, .inl (g.2 0, 20, .inl f10)), (q1, .inr (8, [w2, w3, w4, .ref q9, w6, w7, w8]))] := hD
  refine lv_icmp_eq (tgt := 24) hx hb dX6_hasSameEnvelope_19 (by decide) (fun _ => ?_) (fun h => absurd h22 h)
  refine lv_iinc (v := 3) (lv' := [(3, .int 3), (0, .ref q1), (1, .int 1), (2, .int 0)]) hx hb dX6_hasSameEnvelope_24 hl (k := 0) rfl (by decide) (by decide) rfl (fun ls hl => ?_)
  refine lv_goto (tgt := 2) hx hb dX6_hasSameEnvelope_27 (by decide) ?_
  refine lv_iload_n hx hb dX6_hasSameEnvelope_2 rfl (lv_at hl 0 rfl) ?_
  refine lv_iconst (v := 3) hx hb dX6_hasSameEnvelope_3 (by decide) ?_
  refine lv_icmp_gt (tgt := 30) hx hb dX6_hasSameEnvelope_4 (by decide) (fun h => absurd h (by decide)) (fun _ => ?_)
  refine lv_aload_n hx hb dX6_hasSameEnvelope_7 rfl (lv_at hl 1 rfl) ?_
  refine lv_iload_n hx hb dX6_hasSameEnvelope_8 rfl (lv_at hl 2 rfl) ?_
  refine lv_iload_n hx hb dX6_hasSameEnvelope_9 rfl (lv_at hl 0 rfl) ?_
  refine g_i (wr := []) (rV (rest := []) hx hb hml hown hE hP hD 1 rfl rfl (c1943_X6_instrumentNumber l g q1 q9 x24 w2 w3 w4 w6 w7 w8 f10 (hf23) H.size) (kV_X6_instrumentNumber hE (e462 hE) rfl rfl ⟨(Nat.le_of_ble_eq_true rfl), (Nat.le_of_ble_eq_true rfl)⟩) [0, 1] rfl (by decide) rfl hl.1 rfl (lv_room (Nat.le_of_ble_eq_true rfl)) dX6_hasSameEnvelope_10 ⟨(Nat.le_of_ble_eq_true rfl), (Nat.le_of_ble_eq_true rfl)⟩) hP hD hS hA [0, 1] [] rfl rfl (by decide) (by decide) (fun u7 H locs hP hD hS => ?_)
  have hP : va_P g.1 vwCl [(q9, .inl (g.2 0, 20, .inl f10)), (q1, .inr (8, [w2, w3, w4, .ref q9, w6, w7, w8]))] H := hP
  have hD : va_D A [(q9, .inl (g.2 0, 20, .inl f10)), (q1, .inr (8, [w2, w3, w4, .ref q9, w6, w7, w8]))] := hD
  refine lv_aload_n hx hb dX6_hasSameEnvelope_13 rfl (lv_at hl 1 rfl) ?_
  refine lv_iload_n hx hb dX6_hasSameEnvelope_14 rfl (lv_at hl 3 rfl) ?_
  refine lv_iload_n hx hb dX6_hasSameEnvelope_15 rfl (lv_at hl 0 rfl) ?_
  refine g_i (wr := []) (rV (rest := [.int x24]) hx hb hml hown hE hP hD 1 rfl rfl (c1882_X6_instrumentNumber l g q1 q9 0 w2 w3 w4 w6 w7 w8 f10 (hf25) H.size) (kV_X6_instrumentNumber hE (e462 hE) rfl rfl ⟨(Nat.le_of_ble_eq_true rfl), (Nat.le_of_ble_eq_true rfl)⟩) [0, 1] rfl (by decide) rfl hl.1 rfl (lv_room (Nat.le_of_ble_eq_true rfl)) dX6_hasSameEnvelope_16 ⟨(Nat.le_of_ble_eq_true rfl), (Nat.le_of_ble_eq_true rfl)⟩) hP hD hS hA [0, 1] [] rfl rfl (by decide) (by decide) (fun u8 H locs hP hD hS => ?_)
  have hP : va_P g.1 vwCl [(q9, .inl (g.2 0, 20, .inl f10)), (q1, .inr (8, [w2, w3, w4, .ref q9, w6, w7, w8]))] H := hP
  have hD : va_D A [(q9, .inl (g.2 0, 20, .inl f10)), (q1, .inr (8, [w2, w3, w4, .ref q9, w6, w7, w8]))] := hD
  refine lv_icmp_eq (tgt := 24) hx hb dX6_hasSameEnvelope_19 (by decide) (fun h => absurd h h26) (fun _ => ?_)
  refine lv_iconst (v := 0) hx hb dX6_hasSameEnvelope_22 (by decide) ?_
  exact x_zret hx hb hr rfl rfl hlocks hP hD hS hAe hsz (Nat.le_of_ble_eq_true rfl) (Nat.le_of_ble_eq_true rfl) (fun _ => 0) [0, 1] (by decide) rfl dX6_hasSameEnvelope_23

set_option maxHeartbeats 4000000 in
set_option maxRecDepth 100000 in
theorem c1953_X6_hasSameEnvelope (l : Launch) (g : gG) (q1 q9 : Nat) (x12 x16 x20 x24 : Int32) (w2 w3 w4 w6 w7 w8 : Value) (f10 : Nat → Int32) (hf11 : f10 5 = x12) (hf13 : f10 10 = 0) (hf15 : f10 6 = x16) (hf17 : f10 11 = 0) (hf19 : f10 7 = x20) (hf21 : f10 12 = 100) (hf23 : f10 8 = x24) (hf25 : f10 13 = 0) (h14 : x12 = 0) (h18 : x16 = 0) (h22 : x20 = 100) (h26 : ¬ x24 = 0) (sz : Nat) : Met l yX6_hasSameEnvelope [Cond.code yX6_hasSameEnvelope cX6_hasSameEnvelope 4 (some .boolean)] ({ frames := 1, cells := 0, slots := 0, locals := 23 } : Room) (va_Pc [.ref q1, .int 1, .int 2] (PX g sz [(q9, .inl (g.2 0, 20, .inl f10)), (q1, .inr (8, [w2, w3, w4, .ref q9, w6, w7, w8]))])) (QI g [(q9, .inl (g.2 0, 20, .inl f10)), (q1, .inr (8, [w2, w3, w4, .ref q9, w6, w7, w8]))] sz 0 (fun _ => [(q9, .inl (g.2 0, 20, .inl f10)), (q1, .inr (8, [w2, w3, w4, .ref q9, w6, w7, w8]))])) 0 0 (va_A [(q9, .inl (g.2 0, 20, .inl f10)), (q1, .inr (8, [w2, w3, w4, .ref q9, w6, w7, w8]))] sz) := by
  refine ofN (by decide) (Nat.le_of_ble_eq_true rfl) rfl ?_
  intro p e s m args below meth c A ls hAe hsz hx hb hml hr hlocks hin hown hE hP hD hA hS hl
  have hown : s.vm.findClass RX6 = some m.cls := hown
  refine lv_iconst (v := 0) hx hb dX6_hasSameEnvelope_0 (by decide) ?_
  refine lv_istore_n (lv' := [(3, .int 0), (0, .ref q1), (1, .int 1), (2, .int 2)]) hx hb dX6_hasSameEnvelope_1 rfl hl (by decide) rfl (fun ls hl => ?_)
  refine lv_iload_n hx hb dX6_hasSameEnvelope_2 rfl (lv_at hl 0 rfl) ?_
  refine lv_iconst (v := 3) hx hb dX6_hasSameEnvelope_3 (by decide) ?_
  refine lv_icmp_gt (tgt := 30) hx hb dX6_hasSameEnvelope_4 (by decide) (fun h => absurd h (by decide)) (fun _ => ?_)
  refine lv_aload_n hx hb dX6_hasSameEnvelope_7 rfl (lv_at hl 1 rfl) ?_
  refine lv_iload_n hx hb dX6_hasSameEnvelope_8 rfl (lv_at hl 2 rfl) ?_
  refine lv_iload_n hx hb dX6_hasSameEnvelope_9 rfl (lv_at hl 0 rfl) ?_
  refine g_i (wr := []) (rV (rest := []) hx hb hml hown hE hP hD 1 rfl rfl (c1940_X6_instrumentNumber l g q1 q9 x12 w2 w3 w4 w6 w7 w8 f10 (hf11) s.heap.size) (kV_X6_instrumentNumber hE (e462 hE) rfl rfl ⟨(Nat.le_of_ble_eq_true rfl), (Nat.le_of_ble_eq_true rfl)⟩) [0, 1] rfl (by decide) rfl hl.1 rfl (lv_room (Nat.le_of_ble_eq_true rfl)) dX6_hasSameEnvelope_10 ⟨(Nat.le_of_ble_eq_true rfl), (Nat.le_of_ble_eq_true rfl)⟩) hP hD hS hA [0, 1] [] rfl rfl (by decide) (by decide) (fun u1 H locs hP hD hS => ?_)
  have hP : va_P g.1 vwCl [(q9, .inl (g.2 0, 20, .inl f10)), (q1, .inr (8, [w2, w3, w4, .ref q9, w6, w7, w8]))] H := hP
  have hD : va_D A [(q9, .inl (g.2 0, 20, .inl f10)), (q1, .inr (8, [w2, w3, w4, .ref q9, w6, w7, w8]))] := hD
  refine lv_aload_n hx hb dX6_hasSameEnvelope_13 rfl (lv_at hl 1 rfl) ?_
  refine lv_iload_n hx hb dX6_hasSameEnvelope_14 rfl (lv_at hl 3 rfl) ?_
  refine lv_iload_n hx hb dX6_hasSameEnvelope_15 rfl (lv_at hl 0 rfl) ?_
  refine g_i (wr := []) (rV (rest := [.int x12]) hx hb hml hown hE hP hD 1 rfl rfl (c1889_X6_instrumentNumber l g q1 q9 w2 w3 w4 w6 w7 w8 f10 (hf13) H.size) (kV_X6_instrumentNumber hE (e462 hE) rfl rfl ⟨(Nat.le_of_ble_eq_true rfl), (Nat.le_of_ble_eq_true rfl)⟩) [0, 1] rfl (by decide) rfl hl.1 rfl (lv_room (Nat.le_of_ble_eq_true rfl)) dX6_hasSameEnvelope_16 ⟨(Nat.le_of_ble_eq_true rfl), (Nat.le_of_ble_eq_true rfl)⟩) hP hD hS hA [0, 1] [] rfl rfl (by decide) (by decide) (fun u2 H locs hP hD hS => ?_)
  have hP : va_P g.1 vwCl [(q9, .inl (g.2 0, 20, .inl f10)), (q1, .inr (8, [w2, w3, w4, .ref q9, w6, w7, w8]))] H := hP
  have hD : va_D A [(q9, .inl (g.2 0, 20, .inl f10)), (q1, .inr (8, [w2, w3, w4, .ref q9, w6, w7, w8]))] := hD
  refine lv_icmp_eq (tgt := 24) hx hb dX6_hasSameEnvelope_19 (by decide) (fun _ => ?_) (fun h => absurd h14 h)
  refine lv_iinc (v := 1) (lv' := [(3, .int 1), (0, .ref q1), (1, .int 1), (2, .int 2)]) hx hb dX6_hasSameEnvelope_24 hl (k := 0) rfl (by decide) (by decide) rfl (fun ls hl => ?_)
  refine lv_goto (tgt := 2) hx hb dX6_hasSameEnvelope_27 (by decide) ?_
  refine lv_iload_n hx hb dX6_hasSameEnvelope_2 rfl (lv_at hl 0 rfl) ?_
  refine lv_iconst (v := 3) hx hb dX6_hasSameEnvelope_3 (by decide) ?_
  refine lv_icmp_gt (tgt := 30) hx hb dX6_hasSameEnvelope_4 (by decide) (fun h => absurd h (by decide)) (fun _ => ?_)
  refine lv_aload_n hx hb dX6_hasSameEnvelope_7 rfl (lv_at hl 1 rfl) ?_
  refine lv_iload_n hx hb dX6_hasSameEnvelope_8 rfl (lv_at hl 2 rfl) ?_
  refine lv_iload_n hx hb dX6_hasSameEnvelope_9 rfl (lv_at hl 0 rfl) ?_
  refine g_i (wr := []) (rV (rest := []) hx hb hml hown hE hP hD 1 rfl rfl (c1941_X6_instrumentNumber l g q1 q9 x16 w2 w3 w4 w6 w7 w8 f10 (hf15) H.size) (kV_X6_instrumentNumber hE (e462 hE) rfl rfl ⟨(Nat.le_of_ble_eq_true rfl), (Nat.le_of_ble_eq_true rfl)⟩) [0, 1] rfl (by decide) rfl hl.1 rfl (lv_room (Nat.le_of_ble_eq_true rfl)) dX6_hasSameEnvelope_10 ⟨(Nat.le_of_ble_eq_true rfl), (Nat.le_of_ble_eq_true rfl)⟩) hP hD hS hA [0, 1] [] rfl rfl (by decide) (by decide) (fun u3 H locs hP hD hS => ?_)
  have hP : va_P g.1 vwCl [(q9, .inl (g.2 0, 20, .inl f10)), (q1, .inr (8, [w2, w3, w4, .ref q9, w6, w7, w8]))] H := hP
  have hD : va_D A [(q9, .inl (g.2 0, 20, .inl f10)), (q1, .inr (8, [w2, w3, w4, .ref q9, w6, w7, w8]))] := hD
  refine lv_aload_n hx hb dX6_hasSameEnvelope_13 rfl (lv_at hl 1 rfl) ?_
  refine lv_iload_n hx hb dX6_hasSameEnvelope_14 rfl (lv_at hl 3 rfl) ?_
  refine lv_iload_n hx hb dX6_hasSameEnvelope_15 rfl (lv_at hl 0 rfl) ?_
  refine g_i (wr := []) (rV (rest := [.int x16]) hx hb hml hown hE hP hD 1 rfl rfl (c1890_X6_instrumentNumber l g q1 q9 w2 w3 w4 w6 w7 w8 f10 (hf17) H.size) (kV_X6_instrumentNumber hE (e462 hE) rfl rfl ⟨(Nat.le_of_ble_eq_true rfl), (Nat.le_of_ble_eq_true rfl)⟩) [0, 1] rfl (by decide) rfl hl.1 rfl (lv_room (Nat.le_of_ble_eq_true rfl)) dX6_hasSameEnvelope_16 ⟨(Nat.le_of_ble_eq_true rfl), (Nat.le_of_ble_eq_true rfl)⟩) hP hD hS hA [0, 1] [] rfl rfl (by decide) (by decide) (fun u4 H locs hP hD hS => ?_)
  have hP : va_P g.1 vwCl [(q9, .inl (g.2 0, 20, .inl f10)), (q1, .inr (8, [w2, w3, w4, .ref q9, w6, w7, w8]))] H := hP
  have hD : va_D A [(q9, .inl (g.2 0, 20, .inl f10)), (q1, .inr (8, [w2, w3, w4, .ref q9, w6, w7, w8]))] := hD
  refine lv_icmp_eq (tgt := 24) hx hb dX6_hasSameEnvelope_19 (by decide) (fun _ => ?_) (fun h => absurd h18 h)
  refine lv_iinc (v := 2) (lv' := [(3, .int 2), (0, .ref q1), (1, .int 1), (2, .int 2)]) hx hb dX6_hasSameEnvelope_24 hl (k := 0) rfl (by decide) (by decide) rfl (fun ls hl => ?_)
  refine lv_goto (tgt := 2) hx hb dX6_hasSameEnvelope_27 (by decide) ?_
  refine lv_iload_n hx hb dX6_hasSameEnvelope_2 rfl (lv_at hl 0 rfl) ?_
  refine lv_iconst (v := 3) hx hb dX6_hasSameEnvelope_3 (by decide) ?_
  refine lv_icmp_gt (tgt := 30) hx hb dX6_hasSameEnvelope_4 (by decide) (fun h => absurd h (by decide)) (fun _ => ?_)
  refine lv_aload_n hx hb dX6_hasSameEnvelope_7 rfl (lv_at hl 1 rfl) ?_
  refine lv_iload_n hx hb dX6_hasSameEnvelope_8 rfl (lv_at hl 2 rfl) ?_
  refine lv_iload_n hx hb dX6_hasSameEnvelope_9 rfl (lv_at hl 0 rfl) ?_
  refine g_i (wr := []) (rV (rest := []) hx hb hml hown hE hP hD 1 rfl rfl (c1942_X6_instrumentNumber l g q1 q9 x20 w2 w3 w4 w6 w7 w8 f10 (hf19) H.size) (kV_X6_instrumentNumber hE (e462 hE) rfl rfl ⟨(Nat.le_of_ble_eq_true rfl), (Nat.le_of_ble_eq_true rfl)⟩) [0, 1] rfl (by decide) rfl hl.1 rfl (lv_room (Nat.le_of_ble_eq_true rfl)) dX6_hasSameEnvelope_10 ⟨(Nat.le_of_ble_eq_true rfl), (Nat.le_of_ble_eq_true rfl)⟩) hP hD hS hA [0, 1] [] rfl rfl (by decide) (by decide) (fun u5 H locs hP hD hS => ?_)
  have hP : va_P g.1 vwCl [(q9, .inl (g.2 0, 20, .inl f10)), (q1, .inr (8, [w2, w3, w4, .ref q9, w6, w7, w8]))] H := hP
  have hD : va_D A [(q9, .inl (g.2 0, 20, .inl f10)), (q1, .inr (8, [w2, w3, w4, .ref q9, w6, w7, w8]))] := hD
  refine lv_aload_n hx hb dX6_hasSameEnvelope_13 rfl (lv_at hl 1 rfl) ?_
  refine lv_iload_n hx hb dX6_hasSameEnvelope_14 rfl (lv_at hl 3 rfl) ?_
  refine lv_iload_n hx hb dX6_hasSameEnvelope_15 rfl (lv_at hl 0 rfl) ?_
  refine g_i (wr := []) (rV (rest := [.int x20]) hx hb hml hown hE hP hD 1 rfl rfl (c1891_X6_instrumentNumber l g q1 q9 w2 w3 w4 w6 w7 w8 f10 (hf21) H.size) (kV_X6_instrumentNumber hE (e462 hE) rfl rfl ⟨(Nat.le_of_ble_eq_true rfl), (Nat.le_of_ble_eq_true rfl)⟩) [0, 1] rfl (by decide) rfl hl.1 rfl (lv_room (Nat.le_of_ble_eq_true rfl)) dX6_hasSameEnvelope_16 ⟨(Nat.le_of_ble_eq_true rfl), (Nat.le_of_ble_eq_true rfl)⟩) hP hD hS hA [0, 1] [] rfl rfl (by decide) (by decide) (fun u6 H locs hP hD hS => ?_)
  have hP : va_P g.1 vwCl [(q9, .inl (g.2 0, 20, .inl f10)), (q1, .inr (8, [w2, w3, w4, .ref q9, w6, w7, w8]))] H := hP
  have hD : va_D A [(q9, .inl (g.2 0, 20, .inl f10)), (q1, .inr (8, [w2, w3, w4, .ref q9, w6, w7, w8]))] := hD
  refine lv_icmp_eq (tgt := 24) hx hb dX6_hasSameEnvelope_19 (by decide) (fun _ => ?_) (fun h => absurd h22 h)
  refine lv_iinc (v := 3) (lv' := [(3, .int 3), (0, .ref q1), (1, .int 1), (2, .int 2)]) hx hb dX6_hasSameEnvelope_24 hl (k := 0) rfl (by decide) (by decide) rfl (fun ls hl => ?_)
  refine lv_goto (tgt := 2) hx hb dX6_hasSameEnvelope_27 (by decide) ?_
  refine lv_iload_n hx hb dX6_hasSameEnvelope_2 rfl (lv_at hl 0 rfl) ?_
  refine lv_iconst (v := 3) hx hb dX6_hasSameEnvelope_3 (by decide) ?_
  refine lv_icmp_gt (tgt := 30) hx hb dX6_hasSameEnvelope_4 (by decide) (fun h => absurd h (by decide)) (fun _ => ?_)
  refine lv_aload_n hx hb dX6_hasSameEnvelope_7 rfl (lv_at hl 1 rfl) ?_
  refine lv_iload_n hx hb dX6_hasSameEnvelope_8 rfl (lv_at hl 2 rfl) ?_
  refine lv_iload_n hx hb dX6_hasSameEnvelope_9 rfl (lv_at hl 0 rfl) ?_
  refine g_i (wr := []) (rV (rest := []) hx hb hml hown hE hP hD 1 rfl rfl (c1943_X6_instrumentNumber l g q1 q9 x24 w2 w3 w4 w6 w7 w8 f10 (hf23) H.size) (kV_X6_instrumentNumber hE (e462 hE) rfl rfl ⟨(Nat.le_of_ble_eq_true rfl), (Nat.le_of_ble_eq_true rfl)⟩) [0, 1] rfl (by decide) rfl hl.1 rfl (lv_room (Nat.le_of_ble_eq_true rfl)) dX6_hasSameEnvelope_10 ⟨(Nat.le_of_ble_eq_true rfl), (Nat.le_of_ble_eq_true rfl)⟩) hP hD hS hA [0, 1] [] rfl rfl (by decide) (by decide) (fun u7 H locs hP hD hS => ?_)
  have hP : va_P g.1 vwCl [(q9, .inl (g.2 0, 20, .inl f10)), (q1, .inr (8, [w2, w3, w4, .ref q9, w6, w7, w8]))] H := hP
  have hD : va_D A [(q9, .inl (g.2 0, 20, .inl f10)), (q1, .inr (8, [w2, w3, w4, .ref q9, w6, w7, w8]))] := hD
  refine lv_aload_n hx hb dX6_hasSameEnvelope_13 rfl (lv_at hl 1 rfl) ?_
  refine lv_iload_n hx hb dX6_hasSameEnvelope_14 rfl (lv_at hl 3 rfl) ?_
  refine lv_iload_n hx hb dX6_hasSameEnvelope_15 rfl (lv_at hl 0 rfl) ?_
  refine g_i (wr := []) (rV (rest := [.int x24]) hx hb hml hown hE hP hD 1 rfl rfl (c1892_X6_instrumentNumber l g q1 q9 w2 w3 w4 w6 w7 w8 f10 (hf25) H.size) (kV_X6_instrumentNumber hE (e462 hE) rfl rfl ⟨(Nat.le_of_ble_eq_true rfl), (Nat.le_of_ble_eq_true rfl)⟩) [0, 1] rfl (by decide) rfl hl.1 rfl (lv_room (Nat.le_of_ble_eq_true rfl)) dX6_hasSameEnvelope_16 ⟨(Nat.le_of_ble_eq_true rfl), (Nat.le_of_ble_eq_true rfl)⟩) hP hD hS hA [0, 1] [] rfl rfl (by decide) (by decide) (fun u8 H locs hP hD hS => ?_)
  have hP : va_P g.1 vwCl [(q9, .inl (g.2 0, 20, .inl f10)), (q1, .inr (8, [w2, w3, w4, .ref q9, w6, w7, w8]))] H := hP
  have hD : va_D A [(q9, .inl (g.2 0, 20, .inl f10)), (q1, .inr (8, [w2, w3, w4, .ref q9, w6, w7, w8]))] := hD
  refine lv_icmp_eq (tgt := 24) hx hb dX6_hasSameEnvelope_19 (by decide) (fun h => absurd h h26) (fun _ => ?_)
  refine lv_iconst (v := 0) hx hb dX6_hasSameEnvelope_22 (by decide) ?_
  exact x_zret hx hb hr rfl rfl hlocks hP hD hS hAe hsz (Nat.le_of_ble_eq_true rfl) (Nat.le_of_ble_eq_true rfl) (fun _ => 0) [0, 1] (by decide) rfl dX6_hasSameEnvelope_23

set_option maxHeartbeats 4000000 in
set_option maxRecDepth 100000 in
theorem c1954_X6_hasSameEnvelope (l : Launch) (g : gG) (q1 q9 : Nat) (x12 x16 x20 x24 : Int32) (w2 w3 w4 w6 w7 w8 : Value) (f10 : Nat → Int32) (hf11 : f10 5 = x12) (hf13 : f10 15 = 0) (hf15 : f10 6 = x16) (hf17 : f10 16 = 0) (hf19 : f10 7 = x20) (hf21 : f10 17 = 100) (hf23 : f10 8 = x24) (hf25 : f10 18 = 0) (h14 : x12 = 0) (h18 : x16 = 0) (h22 : x20 = 100) (h26 : ¬ x24 = 0) (sz : Nat) : Met l yX6_hasSameEnvelope [Cond.code yX6_hasSameEnvelope cX6_hasSameEnvelope 4 (some .boolean)] ({ frames := 1, cells := 0, slots := 0, locals := 23 } : Room) (va_Pc [.ref q1, .int 1, .int 3] (PX g sz [(q9, .inl (g.2 0, 20, .inl f10)), (q1, .inr (8, [w2, w3, w4, .ref q9, w6, w7, w8]))])) (QI g [(q9, .inl (g.2 0, 20, .inl f10)), (q1, .inr (8, [w2, w3, w4, .ref q9, w6, w7, w8]))] sz 0 (fun _ => [(q9, .inl (g.2 0, 20, .inl f10)), (q1, .inr (8, [w2, w3, w4, .ref q9, w6, w7, w8]))])) 0 0 (va_A [(q9, .inl (g.2 0, 20, .inl f10)), (q1, .inr (8, [w2, w3, w4, .ref q9, w6, w7, w8]))] sz) := by
  refine ofN (by decide) (Nat.le_of_ble_eq_true rfl) rfl ?_
  intro p e s m args below meth c A ls hAe hsz hx hb hml hr hlocks hin hown hE hP hD hA hS hl
  have hown : s.vm.findClass RX6 = some m.cls := hown
  refine lv_iconst (v := 0) hx hb dX6_hasSameEnvelope_0 (by decide) ?_
  refine lv_istore_n (lv' := [(3, .int 0), (0, .ref q1), (1, .int 1), (2, .int 3)]) hx hb dX6_hasSameEnvelope_1 rfl hl (by decide) rfl (fun ls hl => ?_)
  refine lv_iload_n hx hb dX6_hasSameEnvelope_2 rfl (lv_at hl 0 rfl) ?_
  refine lv_iconst (v := 3) hx hb dX6_hasSameEnvelope_3 (by decide) ?_
  refine lv_icmp_gt (tgt := 30) hx hb dX6_hasSameEnvelope_4 (by decide) (fun h => absurd h (by decide)) (fun _ => ?_)
  refine lv_aload_n hx hb dX6_hasSameEnvelope_7 rfl (lv_at hl 1 rfl) ?_
  refine lv_iload_n hx hb dX6_hasSameEnvelope_8 rfl (lv_at hl 2 rfl) ?_
  refine lv_iload_n hx hb dX6_hasSameEnvelope_9 rfl (lv_at hl 0 rfl) ?_
  refine g_i (wr := []) (rV (rest := []) hx hb hml hown hE hP hD 1 rfl rfl (c1940_X6_instrumentNumber l g q1 q9 x12 w2 w3 w4 w6 w7 w8 f10 (hf11) s.heap.size) (kV_X6_instrumentNumber hE (e462 hE) rfl rfl ⟨(Nat.le_of_ble_eq_true rfl), (Nat.le_of_ble_eq_true rfl)⟩) [0, 1] rfl (by decide) rfl hl.1 rfl (lv_room (Nat.le_of_ble_eq_true rfl)) dX6_hasSameEnvelope_10 ⟨(Nat.le_of_ble_eq_true rfl), (Nat.le_of_ble_eq_true rfl)⟩) hP hD hS hA [0, 1] [] rfl rfl (by decide) (by decide) (fun u1 H locs hP hD hS => ?_)
  have hP : va_P g.1 vwCl [(q9, .inl (g.2 0, 20, .inl f10)), (q1, .inr (8, [w2, w3, w4, .ref q9, w6, w7, w8]))] H := hP
  have hD : va_D A [(q9, .inl (g.2 0, 20, .inl f10)), (q1, .inr (8, [w2, w3, w4, .ref q9, w6, w7, w8]))] := hD
  refine lv_aload_n hx hb dX6_hasSameEnvelope_13 rfl (lv_at hl 1 rfl) ?_
  refine lv_iload_n hx hb dX6_hasSameEnvelope_14 rfl (lv_at hl 3 rfl) ?_
  refine lv_iload_n hx hb dX6_hasSameEnvelope_15 rfl (lv_at hl 0 rfl) ?_
  refine g_i (wr := []) (rV (rest := [.int x12]) hx hb hml hown hE hP hD 1 rfl rfl (c1894_X6_instrumentNumber l g q1 q9 w2 w3 w4 w6 w7 w8 f10 (hf13) H.size) (kV_X6_instrumentNumber hE (e462 hE) rfl rfl ⟨(Nat.le_of_ble_eq_true rfl), (Nat.le_of_ble_eq_true rfl)⟩) [0, 1] rfl (by decide) rfl hl.1 rfl (lv_room (Nat.le_of_ble_eq_true rfl)) dX6_hasSameEnvelope_16 ⟨(Nat.le_of_ble_eq_true rfl), (Nat.le_of_ble_eq_true rfl)⟩) hP hD hS hA [0, 1] [] rfl rfl (by decide) (by decide) (fun u2 H locs hP hD hS => ?_)
  have hP : va_P g.1 vwCl [(q9, .inl (g.2 0, 20, .inl f10)), (q1, .inr (8, [w2, w3, w4, .ref q9, w6, w7, w8]))] H := hP
  have hD : va_D A [(q9, .inl (g.2 0, 20, .inl f10)), (q1, .inr (8, [w2, w3, w4, .ref q9, w6, w7, w8]))] := hD
  refine lv_icmp_eq (tgt := 24) hx hb dX6_hasSameEnvelope_19 (by decide) (fun _ => ?_) (fun h => absurd h14 h)
  refine lv_iinc (v := 1) (lv' := [(3, .int 1), (0, .ref q1), (1, .int 1), (2, .int 3)]) hx hb dX6_hasSameEnvelope_24 hl (k := 0) rfl (by decide) (by decide) rfl (fun ls hl => ?_)
  refine lv_goto (tgt := 2) hx hb dX6_hasSameEnvelope_27 (by decide) ?_
  refine lv_iload_n hx hb dX6_hasSameEnvelope_2 rfl (lv_at hl 0 rfl) ?_
  refine lv_iconst (v := 3) hx hb dX6_hasSameEnvelope_3 (by decide) ?_
  refine lv_icmp_gt (tgt := 30) hx hb dX6_hasSameEnvelope_4 (by decide) (fun h => absurd h (by decide)) (fun _ => ?_)
  refine lv_aload_n hx hb dX6_hasSameEnvelope_7 rfl (lv_at hl 1 rfl) ?_
  refine lv_iload_n hx hb dX6_hasSameEnvelope_8 rfl (lv_at hl 2 rfl) ?_
  refine lv_iload_n hx hb dX6_hasSameEnvelope_9 rfl (lv_at hl 0 rfl) ?_
  refine g_i (wr := []) (rV (rest := []) hx hb hml hown hE hP hD 1 rfl rfl (c1941_X6_instrumentNumber l g q1 q9 x16 w2 w3 w4 w6 w7 w8 f10 (hf15) H.size) (kV_X6_instrumentNumber hE (e462 hE) rfl rfl ⟨(Nat.le_of_ble_eq_true rfl), (Nat.le_of_ble_eq_true rfl)⟩) [0, 1] rfl (by decide) rfl hl.1 rfl (lv_room (Nat.le_of_ble_eq_true rfl)) dX6_hasSameEnvelope_10 ⟨(Nat.le_of_ble_eq_true rfl), (Nat.le_of_ble_eq_true rfl)⟩) hP hD hS hA [0, 1] [] rfl rfl (by decide) (by decide) (fun u3 H locs hP hD hS => ?_)
  have hP : va_P g.1 vwCl [(q9, .inl (g.2 0, 20, .inl f10)), (q1, .inr (8, [w2, w3, w4, .ref q9, w6, w7, w8]))] H := hP
  have hD : va_D A [(q9, .inl (g.2 0, 20, .inl f10)), (q1, .inr (8, [w2, w3, w4, .ref q9, w6, w7, w8]))] := hD
  refine lv_aload_n hx hb dX6_hasSameEnvelope_13 rfl (lv_at hl 1 rfl) ?_
  refine lv_iload_n hx hb dX6_hasSameEnvelope_14 rfl (lv_at hl 3 rfl) ?_
  refine lv_iload_n hx hb dX6_hasSameEnvelope_15 rfl (lv_at hl 0 rfl) ?_
  refine g_i (wr := []) (rV (rest := [.int x16]) hx hb hml hown hE hP hD 1 rfl rfl (c1895_X6_instrumentNumber l g q1 q9 w2 w3 w4 w6 w7 w8 f10 (hf17) H.size) (kV_X6_instrumentNumber hE (e462 hE) rfl rfl ⟨(Nat.le_of_ble_eq_true rfl), (Nat.le_of_ble_eq_true rfl)⟩) [0, 1] rfl (by decide) rfl hl.1 rfl (lv_room (Nat.le_of_ble_eq_true rfl)) dX6_hasSameEnvelope_16 ⟨(Nat.le_of_ble_eq_true rfl), (Nat.le_of_ble_eq_true rfl)⟩) hP hD hS hA [0, 1] [] rfl rfl (by decide) (by decide) (fun u4 H locs hP hD hS => ?_)
  have hP : va_P g.1 vwCl [(q9, .inl (g.2 0, 20, .inl f10)), (q1, .inr (8, [w2, w3, w4, .ref q9, w6, w7, w8]))] H := hP
  have hD : va_D A [(q9, .inl (g.2 0, 20, .inl f10)), (q1, .inr (8, [w2, w3, w4, .ref q9, w6, w7, w8]))] := hD
  refine lv_icmp_eq (tgt := 24) hx hb dX6_hasSameEnvelope_19 (by decide) (fun _ => ?_) (fun h => absurd h18 h)
  refine lv_iinc (v := 2) (lv' := [(3, .int 2), (0, .ref q1), (1, .int 1), (2, .int 3)]) hx hb dX6_hasSameEnvelope_24 hl (k := 0) rfl (by decide) (by decide) rfl (fun ls hl => ?_)
  refine lv_goto (tgt := 2) hx hb dX6_hasSameEnvelope_27 (by decide) ?_
  refine lv_iload_n hx hb dX6_hasSameEnvelope_2 rfl (lv_at hl 0 rfl) ?_
  refine lv_iconst (v := 3) hx hb dX6_hasSameEnvelope_3 (by decide) ?_
  refine lv_icmp_gt (tgt := 30) hx hb dX6_hasSameEnvelope_4 (by decide) (fun h => absurd h (by decide)) (fun _ => ?_)
  refine lv_aload_n hx hb dX6_hasSameEnvelope_7 rfl (lv_at hl 1 rfl) ?_
  refine lv_iload_n hx hb dX6_hasSameEnvelope_8 rfl (lv_at hl 2 rfl) ?_
  refine lv_iload_n hx hb dX6_hasSameEnvelope_9 rfl (lv_at hl 0 rfl) ?_
  refine g_i (wr := []) (rV (rest := []) hx hb hml hown hE hP hD 1 rfl rfl (c1942_X6_instrumentNumber l g q1 q9 x20 w2 w3 w4 w6 w7 w8 f10 (hf19) H.size) (kV_X6_instrumentNumber hE (e462 hE) rfl rfl ⟨(Nat.le_of_ble_eq_true rfl), (Nat.le_of_ble_eq_true rfl)⟩) [0, 1] rfl (by decide) rfl hl.1 rfl (lv_room (Nat.le_of_ble_eq_true rfl)) dX6_hasSameEnvelope_10 ⟨(Nat.le_of_ble_eq_true rfl), (Nat.le_of_ble_eq_true rfl)⟩) hP hD hS hA [0, 1] [] rfl rfl (by decide) (by decide) (fun u5 H locs hP hD hS => ?_)
  have hP : va_P g.1 vwCl [(q9, .inl (g.2 0, 20, .inl f10)), (q1, .inr (8, [w2, w3, w4, .ref q9, w6, w7, w8]))] H := hP
  have hD : va_D A [(q9, .inl (g.2 0, 20, .inl f10)), (q1, .inr (8, [w2, w3, w4, .ref q9, w6, w7, w8]))] := hD
  refine lv_aload_n hx hb dX6_hasSameEnvelope_13 rfl (lv_at hl 1 rfl) ?_
  refine lv_iload_n hx hb dX6_hasSameEnvelope_14 rfl (lv_at hl 3 rfl) ?_
  refine lv_iload_n hx hb dX6_hasSameEnvelope_15 rfl (lv_at hl 0 rfl) ?_
  refine g_i (wr := []) (rV (rest := [.int x20]) hx hb hml hown hE hP hD 1 rfl rfl (c1896_X6_instrumentNumber l g q1 q9 w2 w3 w4 w6 w7 w8 f10 (hf21) H.size) (kV_X6_instrumentNumber hE (e462 hE) rfl rfl ⟨(Nat.le_of_ble_eq_true rfl), (Nat.le_of_ble_eq_true rfl)⟩) [0, 1] rfl (by decide) rfl hl.1 rfl (lv_room (Nat.le_of_ble_eq_true rfl)) dX6_hasSameEnvelope_16 ⟨(Nat.le_of_ble_eq_true rfl), (Nat.le_of_ble_eq_true rfl)⟩) hP hD hS hA [0, 1] [] rfl rfl (by decide) (by decide) (fun u6 H locs hP hD hS => ?_)
  have hP : va_P g.1 vwCl [(q9, .inl (g.2 0, 20, .inl f10)), (q1, .inr (8, [w2, w3, w4, .ref q9, w6, w7, w8]))] H := hP
  have hD : va_D A [(q9, .inl (g.2 0, 20, .inl f10)), (q1, .inr (8, [w2, w3, w4, .ref q9, w6, w7, w8]))] := hD
  refine lv_icmp_eq (tgt := 24) hx hb dX6_hasSameEnvelope_19 (by decide) (fun _ => ?_) (fun h => absurd h22 h)
  refine lv_iinc (v := 3) (lv' := [(3, .int 3), (0, .ref q1), (1, .int 1), (2, .int 3)]) hx hb dX6_hasSameEnvelope_24 hl (k := 0) rfl (by decide) (by decide) rfl (fun ls hl => ?_)
  refine lv_goto (tgt := 2) hx hb dX6_hasSameEnvelope_27 (by decide) ?_
  refine lv_iload_n hx hb dX6_hasSameEnvelope_2 rfl (lv_at hl 0 rfl) ?_
  refine lv_iconst (v := 3) hx hb dX6_hasSameEnvelope_3 (by decide) ?_
  refine lv_icmp_gt (tgt := 30) hx hb dX6_hasSameEnvelope_4 (by decide) (fun h => absurd h (by decide)) (fun _ => ?_)
  refine lv_aload_n hx hb dX6_hasSameEnvelope_7 rfl (lv_at hl 1 rfl) ?_
  refine lv_iload_n hx hb dX6_hasSameEnvelope_8 rfl (lv_at hl 2 rfl) ?_
  refine lv_iload_n hx hb dX6_hasSameEnvelope_9 rfl (lv_at hl 0 rfl) ?_
  refine g_i (wr := []) (rV (rest := []) hx hb hml hown hE hP hD 1 rfl rfl (c1943_X6_instrumentNumber l g q1 q9 x24 w2 w3 w4 w6 w7 w8 f10 (hf23) H.size) (kV_X6_instrumentNumber hE (e462 hE) rfl rfl ⟨(Nat.le_of_ble_eq_true rfl), (Nat.le_of_ble_eq_true rfl)⟩) [0, 1] rfl (by decide) rfl hl.1 rfl (lv_room (Nat.le_of_ble_eq_true rfl)) dX6_hasSameEnvelope_10 ⟨(Nat.le_of_ble_eq_true rfl), (Nat.le_of_ble_eq_true rfl)⟩) hP hD hS hA [0, 1] [] rfl rfl (by decide) (by decide) (fun u7 H locs hP hD hS => ?_)
  have hP : va_P g.1 vwCl [(q9, .inl (g.2 0, 20, .inl f10)), (q1, .inr (8, [w2, w3, w4, .ref q9, w6, w7, w8]))] H := hP
  have hD : va_D A [(q9, .inl (g.2 0, 20, .inl f10)), (q1, .inr (8, [w2, w3, w4, .ref q9, w6, w7, w8]))] := hD
  refine lv_aload_n hx hb dX6_hasSameEnvelope_13 rfl (lv_at hl 1 rfl) ?_
  refine lv_iload_n hx hb dX6_hasSameEnvelope_14 rfl (lv_at hl 3 rfl) ?_
  refine lv_iload_n hx hb dX6_hasSameEnvelope_15 rfl (lv_at hl 0 rfl) ?_
  refine g_i (wr := []) (rV (rest := [.int x24]) hx hb hml hown hE hP hD 1 rfl rfl (c1897_X6_instrumentNumber l g q1 q9 w2 w3 w4 w6 w7 w8 f10 (hf25) H.size) (kV_X6_instrumentNumber hE (e462 hE) rfl rfl ⟨(Nat.le_of_ble_eq_true rfl), (Nat.le_of_ble_eq_true rfl)⟩) [0, 1] rfl (by decide) rfl hl.1 rfl (lv_room (Nat.le_of_ble_eq_true rfl)) dX6_hasSameEnvelope_16 ⟨(Nat.le_of_ble_eq_true rfl), (Nat.le_of_ble_eq_true rfl)⟩) hP hD hS hA [0, 1] [] rfl rfl (by decide) (by decide) (fun u8 H locs hP hD hS => ?_)
  have hP : va_P g.1 vwCl [(q9, .inl (g.2 0, 20, .inl f10)), (q1, .inr (8, [w2, w3, w4, .ref q9, w6, w7, w8]))] H := hP
  have hD : va_D A [(q9, .inl (g.2 0, 20, .inl f10)), (q1, .inr (8, [w2, w3, w4, .ref q9, w6, w7, w8]))] := hD
  refine lv_icmp_eq (tgt := 24) hx hb dX6_hasSameEnvelope_19 (by decide) (fun h => absurd h h26) (fun _ => ?_)
  refine lv_iconst (v := 0) hx hb dX6_hasSameEnvelope_22 (by decide) ?_
  exact x_zret hx hb hr rfl rfl hlocks hP hD hS hAe hsz (Nat.le_of_ble_eq_true rfl) (Nat.le_of_ble_eq_true rfl) (fun _ => 0) [0, 1] (by decide) rfl dX6_hasSameEnvelope_23

set_option maxHeartbeats 4000000 in
set_option maxRecDepth 100000 in
theorem c1955_X6_countSameEnvelopes (l : Launch) (g : gG) (q1 q9 : Nat) (x12 x15 x18 x21 : Int32) (w2 w3 w4 w6 w7 w8 : Value) (f10 : Nat → Int32) (hf11 : f10 5 = x12) (hf13 : f10 0 = 0) (hf14 : f10 6 = x15) (hf16 : f10 1 = 0) (hf17 : f10 7 = x18) (hf19 : f10 2 = 100) (hf20 : f10 8 = x21) (hf22 : f10 3 = 0) (hf27 : f10 10 = 0) (hf28 : f10 11 = 0) (hf29 : f10 12 = 100) (hf30 : f10 13 = 0) (hf31 : f10 15 = 0) (hf32 : f10 16 = 0) (hf33 : f10 17 = 100) (hf34 : f10 18 = 0) (h23 : x12 = 0) (h24 : x15 = 0) (h25 : x18 = 100) (h26 : ¬ x21 = 0) (sz : Nat) : Met l yX6_countSameEnvelopes [Cond.code yX6_countSameEnvelopes cX6_countSameEnvelopes 4 (some .int)] ({ frames := 2, cells := 0, slots := 0, locals := 46 } : Room) (va_Pc [.ref q1, .int 1] (PX g sz [(q9, .inl (g.2 0, 20, .inl f10)), (q1, .inr (8, [w2, w3, w4, .ref q9, w6, w7, w8]))])) (QI g [(q9, .inl (g.2 0, 20, .inl f10)), (q1, .inr (8, [w2, w3, w4, .ref q9, w6, w7, w8]))] sz 1 (fun _ => [(q9, .inl (g.2 0, 20, .inl f10)), (q1, .inr (8, [w2, w3, w4, .ref q9, w6, w7, w8]))])) 0 0 (va_A [(q9, .inl (g.2 0, 20, .inl f10)), (q1, .inr (8, [w2, w3, w4, .ref q9, w6, w7, w8]))] sz) := by
  refine ofN (by decide) (Nat.le_of_ble_eq_true rfl) rfl ?_
  intro p e s m args below meth c A ls hAe hsz hx hb hml hr hlocks hin hown hE hP hD hA hS hl
  have hown : s.vm.findClass RX6 = some m.cls := hown
  refine lv_iconst (v := 0) hx hb dX6_countSameEnvelopes_0 (by decide) ?_
  refine lv_istore_n (lv' := [(2, .int 0), (0, .ref q1), (1, .int 1)]) hx hb dX6_countSameEnvelopes_1 rfl hl (by decide) rfl (fun ls hl => ?_)
  refine lv_iconst (v := 0) hx hb dX6_countSameEnvelopes_2 (by decide) ?_
  refine lv_istore_n (lv' := [(3, .int 0), (2, .int 0), (0, .ref q1), (1, .int 1)]) hx hb dX6_countSameEnvelopes_3 rfl hl (by decide) rfl (fun ls hl => ?_)
  refine lv_iload_n hx hb dX6_countSameEnvelopes_4 rfl (lv_at hl 0 rfl) ?_
  refine lv_iconst (v := 4) hx hb dX6_countSameEnvelopes_5 (by decide) ?_
  refine lv_icmp_ge (tgt := 27) hx hb dX6_countSameEnvelopes_6 (by decide) (fun h => absurd h (by decide)) (fun _ => ?_)
  refine lv_aload_n hx hb dX6_countSameEnvelopes_9 rfl (lv_at hl 2 rfl) ?_
  refine lv_iload_n hx hb dX6_countSameEnvelopes_10 rfl (lv_at hl 3 rfl) ?_
  refine lv_iload_n hx hb dX6_countSameEnvelopes_11 rfl (lv_at hl 0 rfl) ?_
  refine g_i (wr := []) (rV (rest := []) hx hb hml hown hE hP hD 1 rfl rfl (c1952_X6_hasSameEnvelope l g q1 q9 x12 x15 x18 x21 w2 w3 w4 w6 w7 w8 f10 (hf11) (hf13) (hf14) (hf16) (hf17) (hf19) (hf20) (hf22) h23 h24 h25 h26 s.heap.size) (kV_X6_hasSameEnvelope hE (e999 hE) rfl rfl ⟨(Nat.le_of_ble_eq_true rfl), (Nat.le_of_ble_eq_true rfl)⟩) [0, 1] rfl (by decide) rfl hl.1 rfl (lv_room (Nat.le_of_ble_eq_true rfl)) dX6_countSameEnvelopes_12 ⟨(Nat.le_of_ble_eq_true rfl), (Nat.le_of_ble_eq_true rfl)⟩) hP hD hS hA [0, 1] [] rfl rfl (by decide) (by decide) (fun u1 H locs hP hD hS => ?_)
  have hP : va_P g.1 vwCl [(q9, .inl (g.2 0, 20, .inl f10)), (q1, .inr (8, [w2, w3, w4, .ref q9, w6, w7, w8]))] H := hP
  have hD : va_D A [(q9, .inl (g.2 0, 20, .inl f10)), (q1, .inr (8, [w2, w3, w4, .ref q9, w6, w7, w8]))] := hD
  refine lv_if_eq (tgt := 21) hx hb dX6_countSameEnvelopes_15 (by decide) (fun _ => ?_) (fun h => absurd (by decide) h)
  refine lv_iinc (v := 1) (lv' := [(3, .int 1), (2, .int 0), (0, .ref q1), (1, .int 1)]) hx hb dX6_countSameEnvelopes_21 hl (k := 0) rfl (by decide) (by decide) rfl (fun ls hl => ?_)
  refine lv_goto (tgt := 4) hx hb dX6_countSameEnvelopes_24 (by decide) ?_
  refine lv_iload_n hx hb dX6_countSameEnvelopes_4 rfl (lv_at hl 0 rfl) ?_
  refine lv_iconst (v := 4) hx hb dX6_countSameEnvelopes_5 (by decide) ?_
  refine lv_icmp_ge (tgt := 27) hx hb dX6_countSameEnvelopes_6 (by decide) (fun h => absurd h (by decide)) (fun _ => ?_)
  refine lv_aload_n hx hb dX6_countSameEnvelopes_9 rfl (lv_at hl 2 rfl) ?_
  refine lv_iload_n hx hb dX6_countSameEnvelopes_10 rfl (lv_at hl 3 rfl) ?_
  refine lv_iload_n hx hb dX6_countSameEnvelopes_11 rfl (lv_at hl 0 rfl) ?_
  refine g_i (wr := []) (rV (rest := []) hx hb hml hown hE hP hD 1 rfl rfl (c1945_X6_hasSameEnvelope l g q1 q9 x12 x15 x18 x21 w2 w3 w4 w6 w7 w8 f10 (hf11) (hf14) (hf17) (hf20) H.size) (kV_X6_hasSameEnvelope hE (e999 hE) rfl rfl ⟨(Nat.le_of_ble_eq_true rfl), (Nat.le_of_ble_eq_true rfl)⟩) [0, 1] rfl (by decide) rfl hl.1 rfl (lv_room (Nat.le_of_ble_eq_true rfl)) dX6_countSameEnvelopes_12 ⟨(Nat.le_of_ble_eq_true rfl), (Nat.le_of_ble_eq_true rfl)⟩) hP hD hS hA [0, 1] [] rfl rfl (by decide) (by decide) (fun u2 H locs hP hD hS => ?_)
  have hP : va_P g.1 vwCl [(q9, .inl (g.2 0, 20, .inl f10)), (q1, .inr (8, [w2, w3, w4, .ref q9, w6, w7, w8]))] H := hP
  have hD : va_D A [(q9, .inl (g.2 0, 20, .inl f10)), (q1, .inr (8, [w2, w3, w4, .ref q9, w6, w7, w8]))] := hD
  refine lv_if_eq (tgt := 21) hx hb dX6_countSameEnvelopes_15 (by decide) (fun h => absurd h (by decide)) (fun _ => ?_)
  refine lv_iinc (v := 1) (lv' := [(2, .int 1), (3, .int 1), (0, .ref q1), (1, .int 1)]) hx hb dX6_countSameEnvelopes_18 hl (k := 1) rfl (by decide) (by decide) rfl (fun ls hl => ?_)
  refine lv_iinc (v := 2) (lv' := [(3, .int 2), (2, .int 1), (0, .ref q1), (1, .int 1)]) hx hb dX6_countSameEnvelopes_21 hl (k := 1) rfl (by decide) (by decide) rfl (fun ls hl => ?_)
  refine lv_goto (tgt := 4) hx hb dX6_countSameEnvelopes_24 (by decide) ?_
  refine lv_iload_n hx hb dX6_countSameEnvelopes_4 rfl (lv_at hl 0 rfl) ?_
  refine lv_iconst (v := 4) hx hb dX6_countSameEnvelopes_5 (by decide) ?_
  refine lv_icmp_ge (tgt := 27) hx hb dX6_countSameEnvelopes_6 (by decide) (fun h => absurd h (by decide)) (fun _ => ?_)
  refine lv_aload_n hx hb dX6_countSameEnvelopes_9 rfl (lv_at hl 2 rfl) ?_
  refine lv_iload_n hx hb dX6_countSameEnvelopes_10 rfl (lv_at hl 3 rfl) ?_
  refine lv_iload_n hx hb dX6_countSameEnvelopes_11 rfl (lv_at hl 0 rfl) ?_
  refine g_i (wr := []) (rV (rest := []) hx hb hml hown hE hP hD 1 rfl rfl (c1953_X6_hasSameEnvelope l g q1 q9 x12 x15 x18 x21 w2 w3 w4 w6 w7 w8 f10 (hf11) (hf27) (hf14) (hf28) (hf17) (hf29) (hf20) (hf30) h23 h24 h25 h26 H.size) (kV_X6_hasSameEnvelope hE (e999 hE) rfl rfl ⟨(Nat.le_of_ble_eq_true rfl), (Nat.le_of_ble_eq_true rfl)⟩) [0, 1] rfl (by decide) rfl hl.1 rfl (lv_room (Nat.le_of_ble_eq_true rfl)) dX6_countSameEnvelopes_12 ⟨(Nat.le_of_ble_eq_true rfl), (Nat.le_of_ble_eq_true rfl)⟩) hP hD hS hA [0, 1] [] rfl rfl (by decide) (by decide) (fun u3 H locs hP hD hS => ?_)
  have hP : va_P g.1 vwCl [(q9, .inl (g.2 0, 20, .inl f10)), (q1, .inr (8, [w2, w3, w4, .ref q9, w6, w7, w8]))] H := hP
  have hD : va_D A [(q9, .inl (g.2 0, 20, .inl f10)), (q1, .inr (8, [w2, w3, w4, .ref q9, w6, w7, w8]))] := hD
  refine lv_if_eq (tgt := 21) hx hb dX6_countSameEnvelopes_15 (by decide) (fun _ => ?_) (fun h => absurd (by decide) h)
  refine lv_iinc (v := 3) (lv' := [(3, .int 3), (2, .int 1), (0, .ref q1), (1, .int 1)]) hx hb dX6_countSameEnvelopes_21 hl (k := 0) rfl (by decide) (by decide) rfl (fun ls hl => ?_)
  refine lv_goto (tgt := 4) hx hb dX6_countSameEnvelopes_24 (by decide) ?_
  refine lv_iload_n hx hb dX6_countSameEnvelopes_4 rfl (lv_at hl 0 rfl) ?_
  refine lv_iconst (v := 4) hx hb dX6_countSameEnvelopes_5 (by decide) ?_
  refine lv_icmp_ge (tgt := 27) hx hb dX6_countSameEnvelopes_6 (by decide) (fun h => absurd h (by decide)) (fun _ => ?_)
  refine lv_aload_n hx hb dX6_countSameEnvelopes_9 rfl (lv_at hl 2 rfl) ?_
  refine lv_iload_n hx hb dX6_countSameEnvelopes_10 rfl (lv_at hl 3 rfl) ?_
  refine lv_iload_n hx hb dX6_countSameEnvelopes_11 rfl (lv_at hl 0 rfl) ?_
  refine g_i (wr := []) (rV (rest := []) hx hb hml hown hE hP hD 1 rfl rfl (c1954_X6_hasSameEnvelope l g q1 q9 x12 x15 x18 x21 w2 w3 w4 w6 w7 w8 f10 (hf11) (hf31) (hf14) (hf32) (hf17) (hf33) (hf20) (hf34) h23 h24 h25 h26 H.size) (kV_X6_hasSameEnvelope hE (e999 hE) rfl rfl ⟨(Nat.le_of_ble_eq_true rfl), (Nat.le_of_ble_eq_true rfl)⟩) [0, 1] rfl (by decide) rfl hl.1 rfl (lv_room (Nat.le_of_ble_eq_true rfl)) dX6_countSameEnvelopes_12 ⟨(Nat.le_of_ble_eq_true rfl), (Nat.le_of_ble_eq_true rfl)⟩) hP hD hS hA [0, 1] [] rfl rfl (by decide) (by decide) (fun u4 H locs hP hD hS => ?_)
  have hP : va_P g.1 vwCl [(q9, .inl (g.2 0, 20, .inl f10)), (q1, .inr (8, [w2, w3, w4, .ref q9, w6, w7, w8]))] H := hP
  have hD : va_D A [(q9, .inl (g.2 0, 20, .inl f10)), (q1, .inr (8, [w2, w3, w4, .ref q9, w6, w7, w8]))] := hD
  refine lv_if_eq (tgt := 21) hx hb dX6_countSameEnvelopes_15 (by decide) (fun _ => ?_) (fun h => absurd (by decide) h)
  refine lv_iinc (v := 4) (lv' := [(3, .int 4), (2, .int 1), (0, .ref q1), (1, .int 1)]) hx hb dX6_countSameEnvelopes_21 hl (k := 0) rfl (by decide) (by decide) rfl (fun ls hl => ?_)
  refine lv_goto (tgt := 4) hx hb dX6_countSameEnvelopes_24 (by decide) ?_
  refine lv_iload_n hx hb dX6_countSameEnvelopes_4 rfl (lv_at hl 0 rfl) ?_
  refine lv_iconst (v := 4) hx hb dX6_countSameEnvelopes_5 (by decide) ?_
  refine lv_icmp_ge (tgt := 27) hx hb dX6_countSameEnvelopes_6 (by decide) (fun _ => ?_) (fun h => absurd (by decide) h)
  refine lv_iload_n hx hb dX6_countSameEnvelopes_27 rfl (lv_at hl 1 rfl) ?_
  exact x_zret hx hb hr rfl rfl hlocks hP hD hS hAe hsz (Nat.le_of_ble_eq_true rfl) (Nat.le_of_ble_eq_true rfl) (fun _ => 0) [0, 1] (by decide) rfl dX6_countSameEnvelopes_28

set_option maxHeartbeats 4000000 in
set_option maxRecDepth 100000 in
theorem c1956_X9_setEnvelope (l : Launch) (g : gG) (q1 q25 q29 q32 q34 q42 q43 q44 q45 q53 q54 q55 q56 q59 q60 q63 q64 q71 q72 q77 q78 : Nat) (x2 x3 x4 x5 : Int32) (w15 w16 w17 w18 w19 w20 w21 w22 w23 w24 w39 w40 w41 w75 w76 : Value) (f30 : Nat → Option Nat) (f65 : Nat → Int32) (f66 : Nat → Int32) (f79 : Nat → Int32) (f80 : Nat → Int32) (hf31 : f30 1 = some q32) (hf33 : f30 0 = some q34) (hf81 : f80 0 = 0) (hf82 : f80 1 = 0) (hf83 : f80 2 = 100) (hf84 : f80 3 = 0) (hf85 : f80 10 = 0) (hf86 : f80 11 = 0) (hf87 : f80 12 = 100) (hf88 : f80 13 = 0) (hf89 : f80 15 = 0) (hf90 : f80 16 = 0) (hf91 : f80 17 = 100) (hf92 : f80 18 = 0) (h6 : (0 : Int32) ≤ x2) (h7 : x2 ≤ 5000) (h8 : (0 : Int32) ≤ x3) (h9 : x3 ≤ 5000) (h10 : (0 : Int32) ≤ x4) (h11 : x4 ≤ 100) (h12 : (0 : Int32) ≤ x5) (h13 : x5 ≤ 5000) (h93 : x2 = 0) (h94 : x3 = 0) (h95 : x4 = 100) (h96 : ¬ x5 = 0) (sz : Nat) : Met l yX9_setEnvelope [Cond.code yX9_setEnvelope cX9_setEnvelope 7 (some .int)] ({ frames := 5, cells := 0, slots := 0, locals := 148 } : Room) (va_Pc [.ref q1, .int 1, .int x2, .int x3, .int x4, .int x5] (PX g sz [(q45, .inl (g.2 0, 20, .inl f80)), (q56, .inl (g.2 0, 20, .inl f80)), (q44, .inl (g.2 0, 60, .inl f65)), (q55, .inl (g.2 0, 60, .inl f65)), (q78, .inl (g.2 0, 10, .inl f79)), (q72, .inl (g.2 0, 10, .inl f79)), (q77, .inl (g.2 0, 10, .inl f65)), (q71, .inl (g.2 0, 10, .inl f65)), (q43, .inr (9, [.ref q77, .ref q78, w75, w76])), (q54, .inr (9, [.ref q71, .ref q72, .int 1, .int 0])), (q64, .inl (g.2 0, 40, .inl f66)), (q60, .inl (g.2 0, 40, .inl f66)), (q63, .inl (g.2 0, 384, .inl f65)), (q59, .inl (g.2 0, 384, .inl f65)), (q42, .inr (5, [.ref q63, .ref q64])), (q53, .inr (5, [.ref q59, .ref q60])), (q34, .inr (8, [.ref q53, .ref q54, .ref q55, .ref q56, .int 0, .int 4, .int 0])), (q32, .inr (8, [.ref q42, .ref q43, .ref q44, .ref q45, w39, w40, w41])), (q29, .inl (g.2 3, 10, .inr (.inr (.inr (.inr f30))))), (q25, .inr (10, [.ref q29, .int 0, .int 0])), (q1, .inr (11, [.ref q25, w15, w16, w17, w18, w19, w20, w21, w22, w23, w24]))])) (QI g [(q45, .inl (g.2 0, 20, .inl f80)), (q56, .inl (g.2 0, 20, .inl f80)), (q44, .inl (g.2 0, 60, .inl f65)), (q55, .inl (g.2 0, 60, .inl f65)), (q78, .inl (g.2 0, 10, .inl f79)), (q72, .inl (g.2 0, 10, .inl f79)), (q77, .inl (g.2 0, 10, .inl f65)), (q71, .inl (g.2 0, 10, .inl f65)), (q43, .inr (9, [.ref q77, .ref q78, w75, w76])), (q54, .inr (9, [.ref q71, .ref q72, .int 1, .int 0])), (q64, .inl (g.2 0, 40, .inl f66)), (q60, .inl (g.2 0, 40, .inl f66)), (q63, .inl (g.2 0, 384, .inl f65)), (q59, .inl (g.2 0, 384, .inl f65)), (q42, .inr (5, [.ref q63, .ref q64])), (q53, .inr (5, [.ref q59, .ref q60])), (q34, .inr (8, [.ref q53, .ref q54, .ref q55, .ref q56, .int 0, .int 4, .int 0])), (q32, .inr (8, [.ref q42, .ref q43, .ref q44, .ref q45, w39, w40, w41])), (q29, .inl (g.2 3, 10, .inr (.inr (.inr (.inr f30))))), (q25, .inr (10, [.ref q29, .int 0, .int 0])), (q1, .inr (11, [.ref q25, w15, w16, w17, w18, w19, w20, w21, w22, w23, w24]))] sz 1 (fun _ => [(q29, .inl (g.2 3, 10, .inr (.inr (.inr (.inr f30))))), (q34, .inr (8, [.ref q53, .ref q54, .ref q55, .ref q56, .int 0, .int 4, .int 0])), (q42, .inr (5, [.ref q63, .ref q64])), (q53, .inr (5, [.ref q59, .ref q60])), (q63, .inl (g.2 0, 384, .inl f65)), (q59, .inl (g.2 0, 384, .inl f65)), (q64, .inl (g.2 0, 40, .inl f66)), (q60, .inl (g.2 0, 40, .inl f66)), (q43, .inr (9, [.ref q77, .ref q78, .int 1, .int 0])), (q54, .inr (9, [.ref q71, .ref q72, .int 1, .int 0])), (q77, .inl (g.2 0, 10, .inl f65)), (q71, .inl (g.2 0, 10, .inl f65)), (q78, .inl (g.2 0, 10, .inl f79)), (q72, .inl (g.2 0, 10, .inl f79)), (q44, .inl (g.2 0, 60, .inl f65)), (q55, .inl (g.2 0, 60, .inl f65)), (q56, .inl (g.2 0, 20, .inl f80)), (q25, .inr (10, [.ref q29, .int 1, .int 1])), (q1, .inr (11, [.ref q25, w15, w16, w17, w18, w19, w20, w21, .int 0, .int 0, w24])), (q45, .inl (g.2 0, 20, .inl (upd (upd (upd (upd f80 5 x2) 6 x3) 7 x4) 8 x5))), (q32, .inr (8, [.ref q42, .ref q43, .ref q44, .ref q45, .int 0, .int 4, .int 0]))])) 0 0 (va_A [(q45, .inl (g.2 0, 20, .inl f80)), (q56, .inl (g.2 0, 20, .inl f80)), (q44, .inl (g.2 0, 60, .inl f65)), (q55, .inl (g.2 0, 60, .inl f65)), (q78, .inl (g.2 0, 10, .inl f79)), (q72, .inl (g.2 0, 10, .inl f79)), (q77, .inl (g.2 0, 10, .inl f65)), (q71, .inl (g.2 0, 10, .inl f65)), (q43, .inr (9, [.ref q77, .ref q78, w75, w76])), (q54, .inr (9, [.ref q71, .ref q72, .int 1, .int 0])), (q64, .inl (g.2 0, 40, .inl f66)), (q60, .inl (g.2 0, 40, .inl f66)), (q63, .inl (g.2 0, 384, .inl f65)), (q59, .inl (g.2 0, 384, .inl f65)), (q42, .inr (5, [.ref q63, .ref q64])), (q53, .inr (5, [.ref q59, .ref q60])), (q34, .inr (8, [.ref q53, .ref q54, .ref q55, .ref q56, .int 0, .int 4, .int 0])), (q32, .inr (8, [.ref q42, .ref q43, .ref q44, .ref q45, w39, w40, w41])), (q29, .inl (g.2 3, 10, .inr (.inr (.inr (.inr f30))))), (q25, .inr (10, [.ref q29, .int 0, .int 0])), (q1, .inr (11, [.ref q25, w15, w16, w17, w18, w19, w20, w21, w22, w23, w24]))] sz) := by
  refine ofN (by decide) (Nat.le_of_ble_eq_true rfl) rfl ?_
  intro p e s m args below meth c A ls hAe hsz hx hb hml hr hlocks hin hown hE hP hD hA hS hl
  have hown : s.vm.findClass RX9 = some m.cls := hown
  refine lv_iload_n hx hb dX9_setEnvelope_0 rfl (lv_at hl 1 rfl) ?_
  refine g0_v (rS (rest := []) hx hb hml hown hE hP hD (c1854_X9_requireInstrument l g 1 (by decide) (by decide) s.heap.size) (kS_X9_requireInstrument hE (e991 hE) rfl rfl ⟨(Nat.le_of_ble_eq_true rfl), (Nat.le_of_ble_eq_true rfl)⟩) [] rfl (by decide) rfl hl.1 rfl (lv_room (Nat.le_of_ble_eq_true rfl)) dX9_setEnvelope_1 ⟨(Nat.le_of_ble_eq_true rfl), (Nat.le_of_ble_eq_true rfl)⟩) hP hD hS hA (fun u9 H locs hP hS => ?_)
  refine lv_iload_n hx hb dX9_setEnvelope_4 rfl (lv_at hl 2 rfl) ?_
  refine lv_iconst (v := 0) hx hb dX9_setEnvelope_5 (by decide) ?_
  refine lv_sipush (v := 5000) hx hb dX9_setEnvelope_6 (by decide) ?_
  refine g0_v (rS (rest := []) hx hb hml hown hE hP hD (c1859_X9_requireRange l g x2 h6 h7 H.size) (kS_X9_requireRange hE (e636 hE) rfl rfl ⟨(Nat.le_of_ble_eq_true rfl), (Nat.le_of_ble_eq_true rfl)⟩) [] rfl (by decide) rfl hl.1 rfl (lv_room (Nat.le_of_ble_eq_true rfl)) dX9_setEnvelope_9 ⟨(Nat.le_of_ble_eq_true rfl), (Nat.le_of_ble_eq_true rfl)⟩) hP hD hS hA (fun u9 H locs hP hS => ?_)
  refine lv_iload_n hx hb dX9_setEnvelope_12 rfl (lv_at hl 3 rfl) ?_
  refine lv_iconst (v := 0) hx hb dX9_setEnvelope_13 (by decide) ?_
  refine lv_sipush (v := 5000) hx hb dX9_setEnvelope_14 (by decide) ?_
  refine g0_v (rS (rest := []) hx hb hml hown hE hP hD (c1859_X9_requireRange l g x3 h8 h9 H.size) (kS_X9_requireRange hE (e636 hE) rfl rfl ⟨(Nat.le_of_ble_eq_true rfl), (Nat.le_of_ble_eq_true rfl)⟩) [] rfl (by decide) rfl hl.1 rfl (lv_room (Nat.le_of_ble_eq_true rfl)) dX9_setEnvelope_17 ⟨(Nat.le_of_ble_eq_true rfl), (Nat.le_of_ble_eq_true rfl)⟩) hP hD hS hA (fun u9 H locs hP hS => ?_)
  refine lv_iload hx hb dX9_setEnvelope_20 (lv_at hl 4 rfl) ?_
  refine lv_iconst (v := 0) hx hb dX9_setEnvelope_22 (by decide) ?_
  refine lv_bipush (v := 100) hx hb dX9_setEnvelope_23 (by decide) ?_
  refine g0_v (rS (rest := []) hx hb hml hown hE hP hD (c1866_X9_requireRange l g x4 h10 h11 H.size) (kS_X9_requireRange hE (e636 hE) rfl rfl ⟨(Nat.le_of_ble_eq_true rfl), (Nat.le_of_ble_eq_true rfl)⟩) [] rfl (by decide) rfl hl.1 rfl (lv_room (Nat.le_of_ble_eq_true rfl)) dX9_setEnvelope_25 ⟨(Nat.le_of_ble_eq_true rfl), (Nat.le_of_ble_eq_true rfl)⟩) hP hD hS hA (fun u9 H locs hP hS => ?_)
  refine lv_iload hx hb dX9_setEnvelope_28 (lv_at hl 5 rfl) ?_
  refine lv_iconst (v := 0) hx hb dX9_setEnvelope_30 (by decide) ?_
  refine lv_sipush (v := 5000) hx hb dX9_setEnvelope_31 (by decide) ?_
  refine g0_v (rS (rest := []) hx hb hml hown hE hP hD (c1859_X9_requireRange l g x5 h12 h13 H.size) (kS_X9_requireRange hE (e636 hE) rfl rfl ⟨(Nat.le_of_ble_eq_true rfl), (Nat.le_of_ble_eq_true rfl)⟩) [] rfl (by decide) rfl hl.1 rfl (lv_room (Nat.le_of_ble_eq_true rfl)) dX9_setEnvelope_34 ⟨(Nat.le_of_ble_eq_true rfl), (Nat.le_of_ble_eq_true rfl)⟩) hP hD hS hA (fun u9 H locs hP hS => ?_)
  refine lv_aload_n hx hb dX9_setEnvelope_37 rfl (lv_at hl 0 rfl) ?_
  refine gf_RX9_12 hx hb hown hE hP 20 rfl rfl dX9_setEnvelope_38 ?_
  refine g_r (wr := [(q1, .inr (11, [.ref q25, w15, w16, w17, w18, w19, w20, w21, w22, w23, w24]))]) (rV (rest := []) hx hb hml hown hE hP hD 19 rfl rfl (c127_X8_draft l g q25 q29 q32 q34 q42 q53 q59 q63 q60 q64 q43 q54 q71 q77 q72 q78 q55 q44 q56 q45 (.int 0) w39 w40 w41 w75 w76 f30 f65 f66 f79 f80 (hf31) (hf33) H.size) (kV_X8_draft hE (e659 hE) rfl rfl ⟨(Nat.le_of_ble_eq_true rfl), (Nat.le_of_ble_eq_true rfl)⟩) [0, 1, 2, 3, 4, 5, 6, 7, 8, 9, 10, 11, 12, 13, 14, 15, 16, 17, 18, 19] rfl (by decide) rfl hl.1 rfl (lv_room (Nat.le_of_ble_eq_true rfl)) dX9_setEnvelope_41 ⟨(Nat.le_of_ble_eq_true rfl), (Nat.le_of_ble_eq_true rfl)⟩) hP hD hS hA [0, 1, 2, 3, 4, 5, 6, 7, 8, 9, 10, 11, 12, 13, 14, 15, 16, 17, 18, 19] [20] rfl rfl (by decide) (by decide) (fun u6 H locs hP hD hS => ?_)
  have hP : va_P g.1 vwCl [(q1, .inr (11, [.ref q25, w15, w16, w17, w18, w19, w20, w21, w22, w23, w24])), (q29, .inl (g.2 3, 10, .inr (.inr (.inr (.inr f30))))), (q25, .inr (10, [.ref q29, .int 0, .int 0])), (q34, .inr (8, [.ref q53, .ref q54, .ref q55, .ref q56, .int 0, .int 4, .int 0])), (q32, .inr (8, [.ref q42, .ref q43, .ref q44, .ref q45, .int 0, .int 4, .int 0])), (q42, .inr (5, [.ref q63, .ref q64])), (q53, .inr (5, [.ref q59, .ref q60])), (q63, .inl (g.2 0, 384, .inl f65)), (q59, .inl (g.2 0, 384, .inl f65)), (q64, .inl (g.2 0, 40, .inl f66)), (q60, .inl (g.2 0, 40, .inl f66)), (q43, .inr (9, [.ref q77, .ref q78, .int 1, .int 0])), (q54, .inr (9, [.ref q71, .ref q72, .int 1, .int 0])), (q77, .inl (g.2 0, 10, .inl f65)), (q71, .inl (g.2 0, 10, .inl f65)), (q78, .inl (g.2 0, 10, .inl f79)), (q72, .inl (g.2 0, 10, .inl f79)), (q44, .inl (g.2 0, 60, .inl f65)), (q55, .inl (g.2 0, 60, .inl f65)), (q45, .inl (g.2 0, 20, .inl f80)), (q56, .inl (g.2 0, 20, .inl f80))] H := hP
  have hD : va_D A [(q1, .inr (11, [.ref q25, w15, w16, w17, w18, w19, w20, w21, w22, w23, w24])), (q29, .inl (g.2 3, 10, .inr (.inr (.inr (.inr f30))))), (q25, .inr (10, [.ref q29, .int 0, .int 0])), (q34, .inr (8, [.ref q53, .ref q54, .ref q55, .ref q56, .int 0, .int 4, .int 0])), (q32, .inr (8, [.ref q42, .ref q43, .ref q44, .ref q45, .int 0, .int 4, .int 0])), (q42, .inr (5, [.ref q63, .ref q64])), (q53, .inr (5, [.ref q59, .ref q60])), (q63, .inl (g.2 0, 384, .inl f65)), (q59, .inl (g.2 0, 384, .inl f65)), (q64, .inl (g.2 0, 40, .inl f66)), (q60, .inl (g.2 0, 40, .inl f66)), (q43, .inr (9, [.ref q77, .ref q78, .int 1, .int 0])), (q54, .inr (9, [.ref q71, .ref q72, .int 1, .int 0])), (q77, .inl (g.2 0, 10, .inl f65)), (q71, .inl (g.2 0, 10, .inl f65)), (q78, .inl (g.2 0, 10, .inl f79)), (q72, .inl (g.2 0, 10, .inl f79)), (q44, .inl (g.2 0, 60, .inl f65)), (q55, .inl (g.2 0, 60, .inl f65)), (q45, .inl (g.2 0, 20, .inl f80)), (q56, .inl (g.2 0, 20, .inl f80))] := hD
  refine lv_astore (lv' := [(6, .ref q32), (0, .ref q1), (1, .int 1), (2, .int x2), (3, .int x3), (4, .int x4), (5, .int x5)]) hx hb dX9_setEnvelope_44 hl (by decide) rfl (fun ls hl => ?_)
  refine lv_aload hx hb dX9_setEnvelope_46 (lv_at hl 0 rfl) ?_
  refine lv_iload_n hx hb dX9_setEnvelope_48 rfl (lv_at hl 2 rfl) ?_
  refine lv_iload_n hx hb dX9_setEnvelope_49 rfl (lv_at hl 3 rfl) ?_
  refine lv_iload_n hx hb dX9_setEnvelope_50 rfl (lv_at hl 4 rfl) ?_
  refine lv_iload hx hb dX9_setEnvelope_51 (lv_at hl 5 rfl) ?_
  refine lv_iload hx hb dX9_setEnvelope_53 (lv_at hl 6 rfl) ?_
  refine g_v (wr := [(q1, .inr (11, [.ref q25, w15, w16, w17, w18, w19, w20, w21, w22, w23, w24])), (q29, .inl (g.2 3, 10, .inr (.inr (.inr (.inr f30))))), (q25, .inr (10, [.ref q29, .int 0, .int 0])), (q34, .inr (8, [.ref q53, .ref q54, .ref q55, .ref q56, .int 0, .int 4, .int 0])), (q42, .inr (5, [.ref q63, .ref q64])), (q53, .inr (5, [.ref q59, .ref q60])), (q63, .inl (g.2 0, 384, .inl f65)), (q59, .inl (g.2 0, 384, .inl f65)), (q64, .inl (g.2 0, 40, .inl f66)), (q60, .inl (g.2 0, 40, .inl f66)), (q43, .inr (9, [.ref q77, .ref q78, .int 1, .int 0])), (q54, .inr (9, [.ref q71, .ref q72, .int 1, .int 0])), (q77, .inl (g.2 0, 10, .inl f65)), (q71, .inl (g.2 0, 10, .inl f65)), (q78, .inl (g.2 0, 10, .inl f79)), (q72, .inl (g.2 0, 10, .inl f79)), (q44, .inl (g.2 0, 60, .inl f65)), (q55, .inl (g.2 0, 60, .inl f65)), (q56, .inl (g.2 0, 20, .inl f80))]) (rV (rest := []) hx hb hml hown hE hP hD 4 rfl rfl (c1939_X6_putEnvelope l g q32 q45 x2 x3 x4 x5 (.ref q42) (.ref q43) (.ref q44) (.int 0) (.int 4) (.int 0) f80 H.size) (kV_X6_putEnvelope hE (e994 hE) rfl rfl ⟨(Nat.le_of_ble_eq_true rfl), (Nat.le_of_ble_eq_true rfl)⟩) [19, 4] rfl (by decide) rfl hl.1 rfl (lv_room (Nat.le_of_ble_eq_true rfl)) dX9_setEnvelope_55 ⟨(Nat.le_of_ble_eq_true rfl), (Nat.le_of_ble_eq_true rfl)⟩) hP hD hS hA [19, 4] [0, 1, 2, 3, 5, 6, 7, 8, 9, 10, 11, 12, 13, 14, 15, 16, 17, 18, 20] rfl rfl (by decide) (by decide) (fun u7 H locs hP hD hS => ?_)
  have hP : va_P g.1 vwCl [(q1, .inr (11, [.ref q25, w15, w16, w17, w18, w19, w20, w21, w22, w23, w24])), (q29, .inl (g.2 3, 10, .inr (.inr (.inr (.inr f30))))), (q25, .inr (10, [.ref q29, .int 0, .int 0])), (q34, .inr (8, [.ref q53, .ref q54, .ref q55, .ref q56, .int 0, .int 4, .int 0])), (q42, .inr (5, [.ref q63, .ref q64])), (q53, .inr (5, [.ref q59, .ref q60])), (q63, .inl (g.2 0, 384, .inl f65)), (q59, .inl (g.2 0, 384, .inl f65)), (q64, .inl (g.2 0, 40, .inl f66)), (q60, .inl (g.2 0, 40, .inl f66)), (q43, .inr (9, [.ref q77, .ref q78, .int 1, .int 0])), (q54, .inr (9, [.ref q71, .ref q72, .int 1, .int 0])), (q77, .inl (g.2 0, 10, .inl f65)), (q71, .inl (g.2 0, 10, .inl f65)), (q78, .inl (g.2 0, 10, .inl f79)), (q72, .inl (g.2 0, 10, .inl f79)), (q44, .inl (g.2 0, 60, .inl f65)), (q55, .inl (g.2 0, 60, .inl f65)), (q56, .inl (g.2 0, 20, .inl f80)), (q32, .inr (8, [.ref q42, .ref q43, .ref q44, .ref q45, .int 0, .int 4, .int 0])), (q45, .inl (g.2 0, 20, .inl (upd (upd (upd (upd f80 5 x2) 6 x3) 7 x4) 8 x5)))] H := hP
  have hD : va_D A [(q1, .inr (11, [.ref q25, w15, w16, w17, w18, w19, w20, w21, w22, w23, w24])), (q29, .inl (g.2 3, 10, .inr (.inr (.inr (.inr f30))))), (q25, .inr (10, [.ref q29, .int 0, .int 0])), (q34, .inr (8, [.ref q53, .ref q54, .ref q55, .ref q56, .int 0, .int 4, .int 0])), (q42, .inr (5, [.ref q63, .ref q64])), (q53, .inr (5, [.ref q59, .ref q60])), (q63, .inl (g.2 0, 384, .inl f65)), (q59, .inl (g.2 0, 384, .inl f65)), (q64, .inl (g.2 0, 40, .inl f66)), (q60, .inl (g.2 0, 40, .inl f66)), (q43, .inr (9, [.ref q77, .ref q78, .int 1, .int 0])), (q54, .inr (9, [.ref q71, .ref q72, .int 1, .int 0])), (q77, .inl (g.2 0, 10, .inl f65)), (q71, .inl (g.2 0, 10, .inl f65)), (q78, .inl (g.2 0, 10, .inl f79)), (q72, .inl (g.2 0, 10, .inl f79)), (q44, .inl (g.2 0, 60, .inl f65)), (q55, .inl (g.2 0, 60, .inl f65)), (q56, .inl (g.2 0, 20, .inl f80)), (q32, .inr (8, [.ref q42, .ref q43, .ref q44, .ref q45, .int 0, .int 4, .int 0])), (q45, .inl (g.2 0, 20, .inl (upd (upd (upd (upd f80 5 x2) 6 x3) 7 x4) 8 x5)))] := hD
  refine lv_aload_n hx hb dX9_setEnvelope_58 rfl (lv_at hl 1 rfl) ?_
  refine g_v (wr := [(q29, .inl (g.2 3, 10, .inr (.inr (.inr (.inr f30))))), (q34, .inr (8, [.ref q53, .ref q54, .ref q55, .ref q56, .int 0, .int 4, .int 0])), (q42, .inr (5, [.ref q63, .ref q64])), (q53, .inr (5, [.ref q59, .ref q60])), (q63, .inl (g.2 0, 384, .inl f65)), (q59, .inl (g.2 0, 384, .inl f65)), (q64, .inl (g.2 0, 40, .inl f66)), (q60, .inl (g.2 0, 40, .inl f66)), (q43, .inr (9, [.ref q77, .ref q78, .int 1, .int 0])), (q54, .inr (9, [.ref q71, .ref q72, .int 1, .int 0])), (q77, .inl (g.2 0, 10, .inl f65)), (q71, .inl (g.2 0, 10, .inl f65)), (q78, .inl (g.2 0, 10, .inl f79)), (q72, .inl (g.2 0, 10, .inl f79)), (q44, .inl (g.2 0, 60, .inl f65)), (q55, .inl (g.2 0, 60, .inl f65)), (q56, .inl (g.2 0, 20, .inl f80)), (q32, .inr (8, [.ref q42, .ref q43, .ref q44, .ref q45, .int 0, .int 4, .int 0])), (q45, .inl (g.2 0, 20, .inl (upd (upd (upd (upd f80 5 x2) 6 x3) 7 x4) 8 x5)))]) (rV (rest := []) hx hb hml hown hE hP hD 0 rfl rfl (c191_X9_accept l g q1 q25 w15 w16 w17 w18 w19 w20 w21 w22 w23 w24 (.ref q29) H.size) (kV_X9_accept hE (e718 hE) rfl rfl ⟨(Nat.le_of_ble_eq_true rfl), (Nat.le_of_ble_eq_true rfl)⟩) [2, 0] rfl (by decide) rfl hl.1 rfl (lv_room (Nat.le_of_ble_eq_true rfl)) dX9_setEnvelope_59 ⟨(Nat.le_of_ble_eq_true rfl), (Nat.le_of_ble_eq_true rfl)⟩) hP hD hS hA [2, 0] [1, 3, 4, 5, 6, 7, 8, 9, 10, 11, 12, 13, 14, 15, 16, 17, 18, 19, 20] rfl rfl (by decide) (by decide) (fun u8 H locs hP hD hS => ?_)
  have hP : va_P g.1 vwCl [(q29, .inl (g.2 3, 10, .inr (.inr (.inr (.inr f30))))), (q34, .inr (8, [.ref q53, .ref q54, .ref q55, .ref q56, .int 0, .int 4, .int 0])), (q42, .inr (5, [.ref q63, .ref q64])), (q53, .inr (5, [.ref q59, .ref q60])), (q63, .inl (g.2 0, 384, .inl f65)), (q59, .inl (g.2 0, 384, .inl f65)), (q64, .inl (g.2 0, 40, .inl f66)), (q60, .inl (g.2 0, 40, .inl f66)), (q43, .inr (9, [.ref q77, .ref q78, .int 1, .int 0])), (q54, .inr (9, [.ref q71, .ref q72, .int 1, .int 0])), (q77, .inl (g.2 0, 10, .inl f65)), (q71, .inl (g.2 0, 10, .inl f65)), (q78, .inl (g.2 0, 10, .inl f79)), (q72, .inl (g.2 0, 10, .inl f79)), (q44, .inl (g.2 0, 60, .inl f65)), (q55, .inl (g.2 0, 60, .inl f65)), (q56, .inl (g.2 0, 20, .inl f80)), (q32, .inr (8, [.ref q42, .ref q43, .ref q44, .ref q45, .int 0, .int 4, .int 0])), (q45, .inl (g.2 0, 20, .inl (upd (upd (upd (upd f80 5 x2) 6 x3) 7 x4) 8 x5))), (q25, .inr (10, [.ref q29, .int 1, .int 1])), (q1, .inr (11, [.ref q25, w15, w16, w17, w18, w19, w20, w21, .int 0, .int 0, w24]))] H := hP
  have hD : va_D A [(q29, .inl (g.2 3, 10, .inr (.inr (.inr (.inr f30))))), (q34, .inr (8, [.ref q53, .ref q54, .ref q55, .ref q56, .int 0, .int 4, .int 0])), (q42, .inr (5, [.ref q63, .ref q64])), (q53, .inr (5, [.ref q59, .ref q60])), (q63, .inl (g.2 0, 384, .inl f65)), (q59, .inl (g.2 0, 384, .inl f65)), (q64, .inl (g.2 0, 40, .inl f66)), (q60, .inl (g.2 0, 40, .inl f66)), (q43, .inr (9, [.ref q77, .ref q78, .int 1, .int 0])), (q54, .inr (9, [.ref q71, .ref q72, .int 1, .int 0])), (q77, .inl (g.2 0, 10, .inl f65)), (q71, .inl (g.2 0, 10, .inl f65)), (q78, .inl (g.2 0, 10, .inl f79)), (q72, .inl (g.2 0, 10, .inl f79)), (q44, .inl (g.2 0, 60, .inl f65)), (q55, .inl (g.2 0, 60, .inl f65)), (q56, .inl (g.2 0, 20, .inl f80)), (q32, .inr (8, [.ref q42, .ref q43, .ref q44, .ref q45, .int 0, .int 4, .int 0])), (q45, .inl (g.2 0, 20, .inl (upd (upd (upd (upd f80 5 x2) 6 x3) 7 x4) 8 x5))), (q25, .inr (10, [.ref q29, .int 1, .int 1])), (q1, .inr (11, [.ref q25, w15, w16, w17, w18, w19, w20, w21, .int 0, .int 0, w24]))] := hD
  refine lv_aload hx hb dX9_setEnvelope_62 (lv_at hl 0 rfl) ?_
  refine lv_iload_n hx hb dX9_setEnvelope_64 rfl (lv_at hl 2 rfl) ?_
  refine g_i (wr := [(q29, .inl (g.2 3, 10, .inr (.inr (.inr (.inr f30))))), (q34, .inr (8, [.ref q53, .ref q54, .ref q55, .ref q56, .int 0, .int 4, .int 0])), (q42, .inr (5, [.ref q63, .ref q64])), (q53, .inr (5, [.ref q59, .ref q60])), (q63, .inl (g.2 0, 384, .inl f65)), (q59, .inl (g.2 0, 384, .inl f65)), (q64, .inl (g.2 0, 40, .inl f66)), (q60, .inl (g.2 0, 40, .inl f66)), (q43, .inr (9, [.ref q77, .ref q78, .int 1, .int 0])), (q54, .inr (9, [.ref q71, .ref q72, .int 1, .int 0])), (q77, .inl (g.2 0, 10, .inl f65)), (q71, .inl (g.2 0, 10, .inl f65)), (q78, .inl (g.2 0, 10, .inl f79)), (q72, .inl (g.2 0, 10, .inl f79)), (q44, .inl (g.2 0, 60, .inl f65)), (q55, .inl (g.2 0, 60, .inl f65)), (q56, .inl (g.2 0, 20, .inl f80)), (q25, .inr (10, [.ref q29, .int 1, .int 1])), (q1, .inr (11, [.ref q25, w15, w16, w17, w18, w19, w20, w21, .int 0, .int 0, w24]))]) (rV (rest := []) hx hb hml hown hE hP hD 17 rfl rfl (c1955_X6_countSameEnvelopes l g q32 q45 x2 x3 x4 x5 (.ref q42) (.ref q43) (.ref q44) (.int 0) (.int 4) (.int 0) (upd (upd (upd (upd f80 5 x2) 6 x3) 7 x4) 8 x5) (((pk_un (by decide)).trans ((pk_un (by decide)).trans ((pk_un (by decide)).trans pk_us)))) (((pk_un (by decide)).trans ((pk_un (by decide)).trans ((pk_un (by decide)).trans ((pk_un (by decide)).trans hf81))))) (((pk_un (by decide)).trans ((pk_un (by decide)).trans pk_us))) (((pk_un (by decide)).trans ((pk_un (by decide)).trans ((pk_un (by decide)).trans ((pk_un (by decide)).trans hf82))))) (((pk_un (by decide)).trans pk_us)) (((pk_un (by decide)).trans ((pk_un (by decide)).trans ((pk_un (by decide)).trans ((pk_un (by decide)).trans hf83))))) (pk_us) (((pk_un (by decide)).trans ((pk_un (by decide)).trans ((pk_un (by decide)).trans ((pk_un (by decide)).trans hf84))))) (((pk_un (by decide)).trans ((pk_un (by decide)).trans ((pk_un (by decide)).trans ((pk_un (by decide)).trans hf85))))) (((pk_un (by decide)).trans ((pk_un (by decide)).trans ((pk_un (by decide)).trans ((pk_un (by decide)).trans hf86))))) (((pk_un (by decide)).trans ((pk_un (by decide)).trans ((pk_un (by decide)).trans ((pk_un (by decide)).trans hf87))))) (((pk_un (by decide)).trans ((pk_un (by decide)).trans ((pk_un (by decide)).trans ((pk_un (by decide)).trans hf88))))) (((pk_un (by decide)).trans ((pk_un (by decide)).trans ((pk_un (by decide)).trans ((pk_un (by decide)).trans hf89))))) (((pk_un (by decide)).trans ((pk_un (by decide)).trans ((pk_un (by decide)).trans ((pk_un (by decide)).trans hf90))))) (((pk_un (by decide)).trans ((pk_un (by decide)).trans ((pk_un (by decide)).trans ((pk_un (by decide)).trans hf91))))) (((pk_un (by decide)).trans ((pk_un (by decide)).trans ((pk_un (by decide)).trans ((pk_un (by decide)).trans hf92))))) h93 h94 h95 h96 H.size) (kV_X6_countSameEnvelopes hE (e995 hE) rfl rfl ⟨(Nat.le_of_ble_eq_true rfl), (Nat.le_of_ble_eq_true rfl)⟩) [18, 17] rfl (by decide) rfl hl.1 rfl (lv_room (Nat.le_of_ble_eq_true rfl)) dX9_setEnvelope_65 ⟨(Nat.le_of_ble_eq_true rfl), (Nat.le_of_ble_eq_true rfl)⟩) hP hD hS hA [18, 17] [0, 1, 2, 3, 4, 5, 6, 7, 8, 9, 10, 11, 12, 13, 14, 15, 16, 19, 20] rfl rfl (by decide) (by decide) (fun u9 H locs hP hD hS => ?_)
  have hP : va_P g.1 vwCl [(q29, .inl (g.2 3, 10, .inr (.inr (.inr (.inr f30))))), (q34, .inr (8, [.ref q53, .ref q54, .ref q55, .ref q56, .int 0, .int 4, .int 0])), (q42, .inr (5, [.ref q63, .ref q64])), (q53, .inr (5, [.ref q59, .ref q60])), (q63, .inl (g.2 0, 384, .inl f65)), (q59, .inl (g.2 0, 384, .inl f65)), (q64, .inl (g.2 0, 40, .inl f66)), (q60, .inl (g.2 0, 40, .inl f66)), (q43, .inr (9, [.ref q77, .ref q78, .int 1, .int 0])), (q54, .inr (9, [.ref q71, .ref q72, .int 1, .int 0])), (q77, .inl (g.2 0, 10, .inl f65)), (q71, .inl (g.2 0, 10, .inl f65)), (q78, .inl (g.2 0, 10, .inl f79)), (q72, .inl (g.2 0, 10, .inl f79)), (q44, .inl (g.2 0, 60, .inl f65)), (q55, .inl (g.2 0, 60, .inl f65)), (q56, .inl (g.2 0, 20, .inl f80)), (q25, .inr (10, [.ref q29, .int 1, .int 1])), (q1, .inr (11, [.ref q25, w15, w16, w17, w18, w19, w20, w21, .int 0, .int 0, w24])), (q45, .inl (g.2 0, 20, .inl (upd (upd (upd (upd f80 5 x2) 6 x3) 7 x4) 8 x5))), (q32, .inr (8, [.ref q42, .ref q43, .ref q44, .ref q45, .int 0, .int 4, .int 0]))] H := hP
  have hD : va_D A [(q29, .inl (g.2 3, 10, .inr (.inr (.inr (.inr f30))))), (q34, .inr (8, [.ref q53, .ref q54, .ref q55, .ref q56, .int 0, .int 4, .int 0])), (q42, .inr (5, [.ref q63, .ref q64])), (q53, .inr (5, [.ref q59, .ref q60])), (q63, .inl (g.2 0, 384, .inl f65)), (q59, .inl (g.2 0, 384, .inl f65)), (q64, .inl (g.2 0, 40, .inl f66)), (q60, .inl (g.2 0, 40, .inl f66)), (q43, .inr (9, [.ref q77, .ref q78, .int 1, .int 0])), (q54, .inr (9, [.ref q71, .ref q72, .int 1, .int 0])), (q77, .inl (g.2 0, 10, .inl f65)), (q71, .inl (g.2 0, 10, .inl f65)), (q78, .inl (g.2 0, 10, .inl f79)), (q72, .inl (g.2 0, 10, .inl f79)), (q44, .inl (g.2 0, 60, .inl f65)), (q55, .inl (g.2 0, 60, .inl f65)), (q56, .inl (g.2 0, 20, .inl f80)), (q25, .inr (10, [.ref q29, .int 1, .int 1])), (q1, .inr (11, [.ref q25, w15, w16, w17, w18, w19, w20, w21, .int 0, .int 0, w24])), (q45, .inl (g.2 0, 20, .inl (upd (upd (upd (upd f80 5 x2) 6 x3) 7 x4) 8 x5))), (q32, .inr (8, [.ref q42, .ref q43, .ref q44, .ref q45, .int 0, .int 4, .int 0]))] := hD
  exact x_zret hx hb hr rfl rfl hlocks hP hD hS hAe hsz (Nat.le_of_ble_eq_true rfl) (Nat.le_of_ble_eq_true rfl) (fun _ => 0) [0, 1, 2, 3, 4, 5, 6, 7, 8, 9, 10, 11, 12, 13, 14, 15, 16, 17, 18, 19, 20] (by decide) rfl dX9_setEnvelope_68

set_option maxHeartbeats 4000000 in
set_option maxRecDepth 100000 in
theorem c1957_L_setEnvelope (l : Launch) (g : gG) (hlx : l.stackTraces = false) (q1 q6 q25 q29 q32 q34 q42 q43 q44 q45 q53 q54 q55 q56 q59 q60 q63 q64 q71 q72 q77 q78 : Nat) (x2 x3 x4 x5 : Int32) (w15 w16 w17 w18 w19 w20 w21 w22 w23 w24 w39 w40 w41 w75 w76 : Value) (f30 : Nat → Option Nat) (f65 : Nat → Int32) (f66 : Nat → Int32) (f79 : Nat → Int32) (f80 : Nat → Int32) (f98 : Nat → Int64) (hf31 : f30 1 = some q32) (hf33 : f30 0 = some q34) (hf81 : f80 0 = 0) (hf82 : f80 1 = 0) (hf83 : f80 2 = 100) (hf84 : f80 3 = 0) (hf85 : f80 10 = 0) (hf86 : f80 11 = 0) (hf87 : f80 12 = 100) (hf88 : f80 13 = 0) (hf89 : f80 15 = 0) (hf90 : f80 16 = 0) (hf91 : f80 17 = 100) (hf92 : f80 18 = 0) (h7 : (0 : Int32) ≤ x2) (h8 : x2 ≤ 5000) (h9 : (0 : Int32) ≤ x3) (h10 : x3 ≤ 5000) (h11 : (0 : Int32) ≤ x4) (h12 : x4 ≤ 100) (h13 : (0 : Int32) ≤ x5) (h93 : x5 ≤ 5000) (h94 : x2 = 0) (h95 : x3 = 0) (h96 : x4 = 100) (h97 : ¬ x5 = 0) (sz : Nat) : Met l yL_setEnvelope [Cond.codeWith yL_setEnvelope cL_setEnvelope 8 (some .int) [(0, 16, 19, 13), (0, 16, 23, 15)]] ({ frames := 6, cells := 0, slots := 0, locals := 174 } : Room) (va_Pc [.ref q1, .int 1, .int x2, .int x3, .int x4, .int x5, .ref q6] (PZ g sz [(q6, .inl (g.2 1, 1, .inr (.inl f98))), (q45, .inl (g.2 0, 20, .inl f80)), (q56, .inl (g.2 0, 20, .inl f80)), (q44, .inl (g.2 0, 60, .inl f65)), (q55, .inl (g.2 0, 60, .inl f65)), (q78, .inl (g.2 0, 10, .inl f79)), (q72, .inl (g.2 0, 10, .inl f79)), (q77, .inl (g.2 0, 10, .inl f65)), (q71, .inl (g.2 0, 10, .inl f65)), (q43, .inr (9, [.ref q77, .ref q78, w75, w76])), (q54, .inr (9, [.ref q71, .ref q72, .int 1, .int 0])), (q64, .inl (g.2 0, 40, .inl f66)), (q60, .inl (g.2 0, 40, .inl f66)), (q63, .inl (g.2 0, 384, .inl f65)), (q59, .inl (g.2 0, 384, .inl f65)), (q42, .inr (5, [.ref q63, .ref q64])), (q53, .inr (5, [.ref q59, .ref q60])), (q34, .inr (8, [.ref q53, .ref q54, .ref q55, .ref q56, .int 0, .int 4, .int 0])), (q32, .inr (8, [.ref q42, .ref q43, .ref q44, .ref q45, w39, w40, w41])), (q29, .inl (g.2 3, 10, .inr (.inr (.inr (.inr f30))))), (q25, .inr (10, [.ref q29, .int 0, .int 0])), (q1, .inr (11, [.ref q25, w15, w16, w17, w18, w19, w20, w21, w22, w23, w24]))])) (QI g [(q6, .inl (g.2 1, 1, .inr (.inl f98))), (q45, .inl (g.2 0, 20, .inl f80)), (q56, .inl (g.2 0, 20, .inl f80)), (q44, .inl (g.2 0, 60, .inl f65)), (q55, .inl (g.2 0, 60, .inl f65)), (q78, .inl (g.2 0, 10, .inl f79)), (q72, .inl (g.2 0, 10, .inl f79)), (q77, .inl (g.2 0, 10, .inl f65)), (q71, .inl (g.2 0, 10, .inl f65)), (q43, .inr (9, [.ref q77, .ref q78, w75, w76])), (q54, .inr (9, [.ref q71, .ref q72, .int 1, .int 0])), (q64, .inl (g.2 0, 40, .inl f66)), (q60, .inl (g.2 0, 40, .inl f66)), (q63, .inl (g.2 0, 384, .inl f65)), (q59, .inl (g.2 0, 384, .inl f65)), (q42, .inr (5, [.ref q63, .ref q64])), (q53, .inr (5, [.ref q59, .ref q60])), (q34, .inr (8, [.ref q53, .ref q54, .ref q55, .ref q56, .int 0, .int 4, .int 0])), (q32, .inr (8, [.ref q42, .ref q43, .ref q44, .ref q45, w39, w40, w41])), (q29, .inl (g.2 3, 10, .inr (.inr (.inr (.inr f30))))), (q25, .inr (10, [.ref q29, .int 0, .int 0])), (q1, .inr (11, [.ref q25, w15, w16, w17, w18, w19, w20, w21, w22, w23, w24]))] sz 0 (fun _ => [(q6, .inl (g.2 1, 1, .inr (.inl (vp_updL f98 0 1))))])) 0 0 (va_A [(q6, .inl (g.2 1, 1, .inr (.inl f98))), (q45, .inl (g.2 0, 20, .inl f80)), (q56, .inl (g.2 0, 20, .inl f80)), (q44, .inl (g.2 0, 60, .inl f65)), (q55, .inl (g.2 0, 60, .inl f65)), (q78, .inl (g.2 0, 10, .inl f79)), (q72, .inl (g.2 0, 10, .inl f79)), (q77, .inl (g.2 0, 10, .inl f65)), (q71, .inl (g.2 0, 10, .inl f65)), (q43, .inr (9, [.ref q77, .ref q78, w75, w76])), (q54, .inr (9, [.ref q71, .ref q72, .int 1, .int 0])), (q64, .inl (g.2 0, 40, .inl f66)), (q60, .inl (g.2 0, 40, .inl f66)), (q63, .inl (g.2 0, 384, .inl f65)), (q59, .inl (g.2 0, 384, .inl f65)), (q42, .inr (5, [.ref q63, .ref q64])), (q53, .inr (5, [.ref q59, .ref q60])), (q34, .inr (8, [.ref q53, .ref q54, .ref q55, .ref q56, .int 0, .int 4, .int 0])), (q32, .inr (8, [.ref q42, .ref q43, .ref q44, .ref q45, w39, w40, w41])), (q29, .inl (g.2 3, 10, .inr (.inr (.inr (.inr f30))))), (q25, .inr (10, [.ref q29, .int 0, .int 0])), (q1, .inr (11, [.ref q25, w15, w16, w17, w18, w19, w20, w21, w22, w23, w24]))] sz) := by
  refine ofH (by decide) (Nat.le_of_ble_eq_true rfl) rfl ?_
  intro p e s m args below meth c A ls hAe hsz hx hb hml hr hlocks hin hown hE hP hD hA hS hl htb hz
  have hown : s.vm.findClass RL = some m.cls := hown
  refine lv_aload hx hb dL_setEnvelope_0 (lv_at hl 6 rfl) ?_
  refine lv_iconst (v := 0) hx hb dL_setEnvelope_2 (by decide) ?_
  refine lv_aload_n hx hb dL_setEnvelope_3 rfl (lv_at hl 0 rfl) ?_
  refine lv_iload_n hx hb dL_setEnvelope_4 rfl (lv_at hl 1 rfl) ?_
  refine lv_iload_n hx hb dL_setEnvelope_5 rfl (lv_at hl 2 rfl) ?_
  refine lv_iload_n hx hb dL_setEnvelope_6 rfl (lv_at hl 3 rfl) ?_
  refine lv_iload hx hb dL_setEnvelope_7 (lv_at hl 4 rfl) ?_
  refine lv_iload hx hb dL_setEnvelope_9 (lv_at hl 5 rfl) ?_
  refine g_i (wr := [(q6, .inl (g.2 1, 1, .inr (.inl f98)))]) (rV (rest := [.int 0, .ref q6]) hx hb hml hown hE hP hD 21 rfl rfl (c1956_X9_setEnvelope l g q1 q25 q29 q32 q34 q42 q43 q44 q45 q53 q54 q55 q56 q59 q60 q63 q64 q71 q72 q77 q78 x2 x3 x4 x5 w15 w16 w17 w18 w19 w20 w21 w22 w23 w24 w39 w40 w41 w75 w76 f30 f65 f66 f79 f80 (hf31) (hf33) (hf81) (hf82) (hf83) (hf84) (hf85) (hf86) (hf87) (hf88) (hf89) (hf90) (hf91) (hf92) h7 h8 h9 h10 h11 h12 h13 h93 h94 h95 h96 h97 s.heap.size) (kV_X9_setEnvelope hE (e987 hE) rfl rfl ⟨(Nat.le_of_ble_eq_true rfl), (Nat.le_of_ble_eq_true rfl)⟩) [1, 2, 3, 4, 5, 6, 7, 8, 9, 10, 11, 12, 13, 14, 15, 16, 17, 18, 19, 20, 21] rfl (by decide) rfl hl.1 rfl (lv_room (Nat.le_of_ble_eq_true rfl)) dL_setEnvelope_11 ⟨(Nat.le_of_ble_eq_true rfl), (Nat.le_of_ble_eq_true rfl)⟩) hP hD hS hA [1, 2, 3, 4, 5, 6, 7, 8, 9, 10, 11, 12, 13, 14, 15, 16, 17, 18, 19, 20, 21] [0] rfl rfl (by decide) (by decide) (fun u1 H locs hP hD hS => ?_)
  have hP : va_P g.1 vwCl [(q6, .inl (g.2 1, 1, .inr (.inl f98))), (q29, .inl (g.2 3, 10, .inr (.inr (.inr (.inr f30))))), (q34, .inr (8, [.ref q53, .ref q54, .ref q55, .ref q56, .int 0, .int 4, .int 0])), (q42, .inr (5, [.ref q63, .ref q64])), (q53, .inr (5, [.ref q59, .ref q60])), (q63, .inl (g.2 0, 384, .inl f65)), (q59, .inl (g.2 0, 384, .inl f65)), (q64, .inl (g.2 0, 40, .inl f66)), (q60, .inl (g.2 0, 40, .inl f66)), (q43, .inr (9, [.ref q77, .ref q78, .int 1, .int 0])), (q54, .inr (9, [.ref q71, .ref q72, .int 1, .int 0])), (q77, .inl (g.2 0, 10, .inl f65)), (q71, .inl (g.2 0, 10, .inl f65)), (q78, .inl (g.2 0, 10, .inl f79)), (q72, .inl (g.2 0, 10, .inl f79)), (q44, .inl (g.2 0, 60, .inl f65)), (q55, .inl (g.2 0, 60, .inl f65)), (q56, .inl (g.2 0, 20, .inl f80)), (q25, .inr (10, [.ref q29, .int 1, .int 1])), (q1, .inr (11, [.ref q25, w15, w16, w17, w18, w19, w20, w21, .int 0, .int 0, w24])), (q45, .inl (g.2 0, 20, .inl (upd (upd (upd (upd f80 5 x2) 6 x3) 7 x4) 8 x5))), (q32, .inr (8, [.ref q42, .ref q43, .ref q44, .ref q45, .int 0, .int 4, .int 0]))] H := hP
  have hD : va_D A [(q6, .inl (g.2 1, 1, .inr (.inl f98))), (q29, .inl (g.2 3, 10, .inr (.inr (.inr (.inr f30))))), (q34, .inr (8, [.ref q53, .ref q54, .ref q55, .ref q56, .int 0, .int 4, .int 0])), (q42, .inr (5, [.ref q63, .ref q64])), (q53, .inr (5, [.ref q59, .ref q60])), (q63, .inl (g.2 0, 384, .inl f65)), (q59, .inl (g.2 0, 384, .inl f65)), (q64, .inl (g.2 0, 40, .inl f66)), (q60, .inl (g.2 0, 40, .inl f66)), (q43, .inr (9, [.ref q77, .ref q78, .int 1, .int 0])), (q54, .inr (9, [.ref q71, .ref q72, .int 1, .int 0])), (q77, .inl (g.2 0, 10, .inl f65)), (q71, .inl (g.2 0, 10, .inl f65)), (q78, .inl (g.2 0, 10, .inl f79)), (q72, .inl (g.2 0, 10, .inl f79)), (q44, .inl (g.2 0, 60, .inl f65)), (q55, .inl (g.2 0, 60, .inl f65)), (q56, .inl (g.2 0, 20, .inl f80)), (q25, .inr (10, [.ref q29, .int 1, .int 1])), (q1, .inr (11, [.ref q25, w15, w16, w17, w18, w19, w20, w21, .int 0, .int 0, w24])), (q45, .inl (g.2 0, 20, .inl (upd (upd (upd (upd f80 5 x2) 6 x3) 7 x4) 8 x5))), (q32, .inr (8, [.ref q42, .ref q43, .ref q44, .ref q45, .int 0, .int 4, .int 0]))] := hD
  refine lv_i2l (v := 1) hx hb dL_setEnvelope_14 (by decide) ?_
  refine x_last (ws' := [(q6, .inl (g.2 1, 1, .inr (.inl (vp_updL f98 0 1)))), (q29, .inl (g.2 3, 10, .inr (.inr (.inr (.inr f30))))), (q34, .inr (8, [.ref q53, .ref q54, .ref q55, .ref q56, .int 0, .int 4, .int 0])), (q42, .inr (5, [.ref q63, .ref q64])), (q53, .inr (5, [.ref q59, .ref q60])), (q63, .inl (g.2 0, 384, .inl f65)), (q59, .inl (g.2 0, 384, .inl f65)), (q64, .inl (g.2 0, 40, .inl f66)), (q60, .inl (g.2 0, 40, .inl f66)), (q43, .inr (9, [.ref q77, .ref q78, .int 1, .int 0])), (q54, .inr (9, [.ref q71, .ref q72, .int 1, .int 0])), (q77, .inl (g.2 0, 10, .inl f65)), (q71, .inl (g.2 0, 10, .inl f65)), (q78, .inl (g.2 0, 10, .inl f79)), (q72, .inl (g.2 0, 10, .inl f79)), (q44, .inl (g.2 0, 60, .inl f65)), (q55, .inl (g.2 0, 60, .inl f65)), (q56, .inl (g.2 0, 20, .inl f80)), (q25, .inr (10, [.ref q29, .int 1, .int 1])), (q1, .inr (11, [.ref q25, w15, w16, w17, w18, w19, w20, w21, .int 0, .int 0, w24])), (q45, .inl (g.2 0, 20, .inl (upd (upd (upd (upd f80 5 x2) 6 x3) 7 x4) 8 x5))), (q32, .inr (8, [.ref q42, .ref q43, .ref q44, .ref q45, .int 0, .int 4, .int 0]))]) hx hb hE hP hD hS 0 rfl 0 (x_in (by decide)) (by decide) dL_setEnvelope_15 rfl (fun H locs hP hD hS => ?_)
  refine lv_goto (tgt := 27) hx hb dL_setEnvelope_16 (by decide) ?_
  refine lv_iconst (v := 0) hx hb dL_setEnvelope_27 (by decide) ?_
  exact x_zret hx hb hr rfl rfl hlocks hP hD hS hAe hsz (Nat.le_of_ble_eq_true rfl) (Nat.le_of_ble_eq_true rfl) (fun _ => 0) [0] (by decide) rfl dL_setEnvelope_28

set_option maxHeartbeats 4000000 in
set_option maxRecDepth 100000 in
theorem c1958_X10_setEnvelope (l : Launch) (g : gG) (q1 q51 q52 q53 : Nat) (x2 x3 x4 x5 : Int32) (w15 w17 w20 w21 w22 w23 w24 w25 w26 w27 w28 w29 w30 w31 w32 w33 w34 w35 w36 w37 w38 w39 w40 w41 w42 w43 w44 w45 w46 w47 w48 w49 w50 : Value) (f54 : Nat → Int32) (f55 : Nat → Int32) (hf56 : f54 474 = 0) (hf58 : f54 475 = 0) (hf60 : f54 476 = 100) (hf62 : f54 477 = 0) (hf64 : f54 484 = 0) (hf65 : f54 485 = 0) (hf66 : f54 486 = 100) (hf67 : f54 487 = 0) (hf68 : f54 489 = 0) (hf69 : f54 490 = 0) (hf70 : f54 491 = 100) (hf71 : f54 492 = 0) (h6 : (0 : Int32) ≤ x2) (h7 : x2 ≤ 5000) (h8 : (0 : Int32) ≤ x3) (h9 : x3 ≤ 5000) (h10 : (0 : Int32) ≤ x4) (h11 : x4 ≤ 100) (h12 : (0 : Int32) ≤ x5) (h13 : x5 ≤ 5000) (h57 : (0 : Int32) = x2) (h59 : (0 : Int32) = x3) (h61 : (100 : Int32) = x4) (h63 : ¬ (0 : Int32) = x5) (sz : Nat) : Met l yX10_setEnvelope [Cond.code yX10_setEnvelope cX10_setEnvelope 12 (some .int)] ({ frames := 2, cells := 0, slots := 0, locals := 42 } : Room) (va_Pc [.ref q1, .int 1, .int x2, .int x3, .int x4, .int x5] (PX g sz [(q53, .inl (g.2 0, 3976, .inl f55)), (q52, .inl (g.2 0, 497, .inl f55)), (q51, .inl (g.2 0, 497, .inl f54)), (q1, .inr (12, [.ref q51, w15, .ref q52, w17, .ref q53, .int 0, w20, w21, w22, w23, w24, w25, w26, w27, w28, w29, w30, w31, w32, w33, w34, w35, w36, w37, w38, w39, w40, w41, w42, w43, w44, w45, w46, w47, w48, w49, w50]))])) (QI g [(q53, .inl (g.2 0, 3976, .inl f55)), (q52, .inl (g.2 0, 497, .inl f55)), (q51, .inl (g.2 0, 497, .inl f54)), (q1, .inr (12, [.ref q51, w15, .ref q52, w17, .ref q53, .int 0, w20, w21, w22, w23, w24, w25, w26, w27, w28, w29, w30, w31, w32, w33, w34, w35, w36, w37, w38, w39, w40, w41, w42, w43, w44, w45, w46, w47, w48, w49, w50]))] sz 1 (fun _ => [(q1, .inr (12, [.ref q51, w15, .ref q52, w17, .ref q53, .int 1, .int 0, w21, w22, w23, w24, w25, w26, w27, w28, w29, w30, w31, w32, w33, w34, w35, w36, w37, w38, w39, w40, w41, w42, w43, w44, w45, w46, w47, w48, w49, w50]))])) 0 0 (va_A [(q53, .inl (g.2 0, 3976, .inl f55)), (q52, .inl (g.2 0, 497, .inl f55)), (q51, .inl (g.2 0, 497, .inl f54)), (q1, .inr (12, [.ref q51, w15, .ref q52, w17, .ref q53, .int 0, w20, w21, w22, w23, w24, w25, w26, w27, w28, w29, w30, w31, w32, w33, w34, w35, w36, w37, w38, w39, w40, w41, w42, w43, w44, w45, w46, w47, w48, w49, w50]))] sz) := by
  refine ofN (by decide) (Nat.le_of_ble_eq_true rfl) rfl ?_
  intro p e s m args below meth c A ls hAe hsz hx hb hml hr hlocks hin hown hE hP hD hA hS hl
  have hown : s.vm.findClass RX10 = some m.cls := hown
  refine lv_iload_n hx hb dX10_setEnvelope_0 rfl (lv_at hl 2 rfl) ?_
  refine lv_iconst (v := 0) hx hb dX10_setEnvelope_1 (by decide) ?_
  refine lv_sipush (v := 5000) hx hb dX10_setEnvelope_2 (by decide) ?_
  refine g0_i (rS (rest := []) hx hb hml hown hE hP hD (c1843_X10_in l g x2 h6 h7 s.heap.size) (kS_X10_in hE (e1431 hE) rfl rfl ⟨(Nat.le_of_ble_eq_true rfl), (Nat.le_of_ble_eq_true rfl)⟩) [] rfl (by decide) rfl hl.1 rfl (lv_room (Nat.le_of_ble_eq_true rfl)) dX10_setEnvelope_5 ⟨(Nat.le_of_ble_eq_true rfl), (Nat.le_of_ble_eq_true rfl)⟩) hP hD hS hA (fun u9 H locs hP hS => ?_)
  refine lv_if_eq (tgt := 49) hx hb dX10_setEnvelope_8 (by decide) (fun h => absurd h (by decide)) (fun _ => ?_)
  refine lv_iload_n hx hb dX10_setEnvelope_11 rfl (lv_at hl 3 rfl) ?_
  refine lv_iconst (v := 0) hx hb dX10_setEnvelope_12 (by decide) ?_
  refine lv_sipush (v := 5000) hx hb dX10_setEnvelope_13 (by decide) ?_
  refine g0_i (rS (rest := []) hx hb hml hown hE hP hD (c1843_X10_in l g x3 h8 h9 H.size) (kS_X10_in hE (e1431 hE) rfl rfl ⟨(Nat.le_of_ble_eq_true rfl), (Nat.le_of_ble_eq_true rfl)⟩) [] rfl (by decide) rfl hl.1 rfl (lv_room (Nat.le_of_ble_eq_true rfl)) dX10_setEnvelope_16 ⟨(Nat.le_of_ble_eq_true rfl), (Nat.le_of_ble_eq_true rfl)⟩) hP hD hS hA (fun u9 H locs hP hS => ?_)
  refine lv_if_eq (tgt := 49) hx hb dX10_setEnvelope_19 (by decide) (fun h => absurd h (by decide)) (fun _ => ?_)
  refine lv_iload hx hb dX10_setEnvelope_22 (lv_at hl 4 rfl) ?_
  refine lv_iconst (v := 0) hx hb dX10_setEnvelope_24 (by decide) ?_
  refine lv_bipush (v := 100) hx hb dX10_setEnvelope_25 (by decide) ?_
  refine g0_i (rS (rest := []) hx hb hml hown hE hP hD (c1849_X10_in l g x4 h10 h11 H.size) (kS_X10_in hE (e1431 hE) rfl rfl ⟨(Nat.le_of_ble_eq_true rfl), (Nat.le_of_ble_eq_true rfl)⟩) [] rfl (by decide) rfl hl.1 rfl (lv_room (Nat.le_of_ble_eq_true rfl)) dX10_setEnvelope_27 ⟨(Nat.le_of_ble_eq_true rfl), (Nat.le_of_ble_eq_true rfl)⟩) hP hD hS hA (fun u9 H locs hP hS => ?_)
  refine lv_if_eq (tgt := 49) hx hb dX10_setEnvelope_30 (by decide) (fun h => absurd h (by decide)) (fun _ => ?_)
  refine lv_iload hx hb dX10_setEnvelope_33 (lv_at hl 5 rfl) ?_
  refine lv_iconst (v := 0) hx hb dX10_setEnvelope_35 (by decide) ?_
  refine lv_sipush (v := 5000) hx hb dX10_setEnvelope_36 (by decide) ?_
  refine g0_i (rS (rest := []) hx hb hml hown hE hP hD (c1843_X10_in l g x5 h12 h13 H.size) (kS_X10_in hE (e1431 hE) rfl rfl ⟨(Nat.le_of_ble_eq_true rfl), (Nat.le_of_ble_eq_true rfl)⟩) [] rfl (by decide) rfl hl.1 rfl (lv_room (Nat.le_of_ble_eq_true rfl)) dX10_setEnvelope_39 ⟨(Nat.le_of_ble_eq_true rfl), (Nat.le_of_ble_eq_true rfl)⟩) hP hD hS hA (fun u9 H locs hP hS => ?_)
  refine lv_if_eq (tgt := 49) hx hb dX10_setEnvelope_42 (by decide) (fun h => absurd h (by decide)) (fun _ => ?_)
  refine lv_iconst (v := 1) hx hb dX10_setEnvelope_45 (by decide) ?_
  refine lv_goto (tgt := 50) hx hb dX10_setEnvelope_46 (by decide) ?_
  refine lv_istore (lv' := [(6, .int 1), (0, .ref q1), (1, .int 1), (2, .int x2), (3, .int x3), (4, .int x4), (5, .int x5)]) hx hb dX10_setEnvelope_50 hl (by decide) rfl (fun ls hl => ?_)
  refine lv_aload_n hx hb dX10_setEnvelope_52 rfl (lv_at hl 1 rfl) ?_
  refine lv_iload_n hx hb dX10_setEnvelope_53 rfl (lv_at hl 2 rfl) ?_
  refine g0_i (rS (rest := [.ref q1]) hx hb hml hown hE hP hD (c1857_X10_isInstrument l g 1 (by decide) (by decide) H.size) (kS_X10_isInstrument hE (e1645 hE) rfl rfl ⟨(Nat.le_of_ble_eq_true rfl), (Nat.le_of_ble_eq_true rfl)⟩) [] rfl (by decide) rfl hl.1 rfl (lv_room (Nat.le_of_ble_eq_true rfl)) dX10_setEnvelope_54 ⟨(Nat.le_of_ble_eq_true rfl), (Nat.le_of_ble_eq_true rfl)⟩) hP hD hS hA (fun u9 H locs hP hS => ?_)
  refine lv_if_ne (tgt := 64) hx hb dX10_setEnvelope_57 (by decide) (fun _ => ?_) (fun h => absurd h (by decide))
  refine lv_iload hx hb dX10_setEnvelope_64 (lv_at hl 0 rfl) ?_
  refine lv_if_ne (tgt := 73) hx hb dX10_setEnvelope_66 (by decide) (fun _ => ?_) (fun h => absurd h (by decide))
  refine lv_iconst (v := 0) hx hb dX10_setEnvelope_73 (by decide) ?_
  refine pf_RX10_86 (ws' := [(q53, .inl (g.2 0, 3976, .inl f55)), (q52, .inl (g.2 0, 497, .inl f55)), (q51, .inl (g.2 0, 497, .inl f54)), (q1, .inr (12, [.ref q51, w15, .ref q52, w17, .ref q53, .int 0, .int 0, w21, w22, w23, w24, w25, w26, w27, w28, w29, w30, w31, w32, w33, w34, w35, w36, w37, w38, w39, w40, w41, w42, w43, w44, w45, w46, w47, w48, w49, w50]))]) hx hb hown hE hP hD hS 3 rfl rfl rfl (Nat.le_of_ble_eq_true rfl) dX10_setEnvelope_74 rfl (fun H locs hP hD hS => ?_)
  refine lv_aload_n hx hb dX10_setEnvelope_77 rfl (lv_at hl 1 rfl) ?_
  refine gf_RX10_86 hx hb hown hE hP 3 rfl rfl dX10_setEnvelope_78 ?_
  refine lv_if_le (tgt := 86) hx hb dX10_setEnvelope_81 (by decide) (fun _ => ?_) (fun h => absurd (by decide) h)
  refine lv_aload_n hx hb dX10_setEnvelope_86 rfl (lv_at hl 1 rfl) ?_
  refine g_v (wr := []) (rV (rest := []) hx hb hml hown hE hP hD 3 rfl rfl (c1714_X10_keepNow l g q1 q51 q52 q53 w15 w17 (.int 0) w21 w22 w23 w24 w25 w26 w27 w28 w29 w30 w31 w32 w33 w34 w35 w36 w37 w38 w39 w40 w41 w42 w43 w44 w45 w46 w47 w48 w49 w50 f54 f55 H.size) (kV_X10_keepNow hE (e1494 hE) rfl rfl ⟨(Nat.le_of_ble_eq_true rfl), (Nat.le_of_ble_eq_true rfl)⟩) [0, 1, 2, 3] rfl (by decide) rfl hl.1 rfl (lv_room (Nat.le_of_ble_eq_true rfl)) dX10_setEnvelope_87 ⟨(Nat.le_of_ble_eq_true rfl), (Nat.le_of_ble_eq_true rfl)⟩) hP hD hS hA [0, 1, 2, 3] [] rfl rfl (by decide) (by decide) (fun u6 H locs hP hD hS => ?_)
  have hP : va_P g.1 vwCl [(q51, .inl (g.2 0, 497, .inl f54)), (q53, .inl (g.2 0, 3976, .inl (cpF 497 (cpF 497 f54 f55) f55))), (q52, .inl (g.2 0, 497, .inl (cpF 497 f54 f55))), (q1, .inr (12, [.ref q51, w15, .ref q52, w17, .ref q53, .int 1, .int 0, w21, w22, w23, w24, w25, w26, w27, w28, w29, w30, w31, w32, w33, w34, w35, w36, w37, w38, w39, w40, w41, w42, w43, w44, w45, w46, w47, w48, w49, w50]))] H := hP
  have hD : va_D A [(q51, .inl (g.2 0, 497, .inl f54)), (q53, .inl (g.2 0, 3976, .inl (cpF 497 (cpF 497 f54 f55) f55))), (q52, .inl (g.2 0, 497, .inl (cpF 497 f54 f55))), (q1, .inr (12, [.ref q51, w15, .ref q52, w17, .ref q53, .int 1, .int 0, w21, w22, w23, w24, w25, w26, w27, w28, w29, w30, w31, w32, w33, w34, w35, w36, w37, w38, w39, w40, w41, w42, w43, w44, w45, w46, w47, w48, w49, w50]))] := hD
  refine lv_sipush (v := 474) hx hb dX10_setEnvelope_90 (by decide) ?_
  refine lv_iconst (v := 5) hx hb dX10_setEnvelope_93 (by decide) ?_
  refine lv_iload_n hx hb dX10_setEnvelope_94 rfl (lv_at hl 2 rfl) ?_
  refine x_imul (v := 5) hx hb dX10_setEnvelope_95 (by decide) ?_
  refine x_iadd (v := 479) hx hb dX10_setEnvelope_96 (by decide) ?_
  refine lv_istore (lv' := [(7, .int 479), (6, .int 1), (0, .ref q1), (1, .int 1), (2, .int x2), (3, .int x3), (4, .int x4), (5, .int x5)]) hx hb dX10_setEnvelope_97 hl (by decide) rfl (fun ls hl => ?_)
  refine lv_aload_n hx hb dX10_setEnvelope_99 rfl (lv_at hl 2 rfl) ?_
  refine gf_RX10_9 hx hb hown hE hP 3 rfl rfl dX10_setEnvelope_100 ?_
  refine lv_iload hx hb dX10_setEnvelope_103 (lv_at hl 0 rfl) ?_
  refine lv_iload_n hx hb dX10_setEnvelope_105 rfl (lv_at hl 4 rfl) ?_
  refine x_iast (ws' := [(q51, .inl (g.2 0, 497, .inl (upd f54 479 x2))), (q53, .inl (g.2 0, 3976, .inl (cpF 497 (cpF 497 f54 f55) f55))), (q52, .inl (g.2 0, 497, .inl (cpF 497 f54 f55))), (q1, .inr (12, [.ref q51, w15, .ref q52, w17, .ref q53, .int 1, .int 0, w21, w22, w23, w24, w25, w26, w27, w28, w29, w30, w31, w32, w33, w34, w35, w36, w37, w38, w39, w40, w41, w42, w43, w44, w45, w46, w47, w48, w49, w50]))]) hx hb hE hP hD hS 0 rfl 479 (x_in (by decide)) (by decide) dX10_setEnvelope_106 rfl (fun H locs hP hD hS => ?_)
  refine lv_aload_n hx hb dX10_setEnvelope_107 rfl (lv_at hl 2 rfl) ?_
  refine gf_RX10_9 hx hb hown hE hP 3 rfl rfl dX10_setEnvelope_108 ?_
  refine lv_iload hx hb dX10_setEnvelope_111 (lv_at hl 0 rfl) ?_
  refine lv_iconst (v := 1) hx hb dX10_setEnvelope_113 (by decide) ?_
  refine x_iadd (v := 480) hx hb dX10_setEnvelope_114 (by decide) ?_
  refine lv_iload_n hx hb dX10_setEnvelope_115 rfl (lv_at hl 5 rfl) ?_
  refine x_iast (ws' := [(q51, .inl (g.2 0, 497, .inl (upd (upd f54 479 x2) 480 x3))), (q53, .inl (g.2 0, 3976, .inl (cpF 497 (cpF 497 f54 f55) f55))), (q52, .inl (g.2 0, 497, .inl (cpF 497 f54 f55))), (q1, .inr (12, [.ref q51, w15, .ref q52, w17, .ref q53, .int 1, .int 0, w21, w22, w23, w24, w25, w26, w27, w28, w29, w30, w31, w32, w33, w34, w35, w36, w37, w38, w39, w40, w41, w42, w43, w44, w45, w46, w47, w48, w49, w50]))]) hx hb hE hP hD hS 0 rfl 480 (x_in (by decide)) (by decide) dX10_setEnvelope_116 rfl (fun H locs hP hD hS => ?_)
  refine lv_aload_n hx hb dX10_setEnvelope_117 rfl (lv_at hl 2 rfl) ?_
  refine gf_RX10_9 hx hb hown hE hP 3 rfl rfl dX10_setEnvelope_118 ?_
  refine lv_iload hx hb dX10_setEnvelope_121 (lv_at hl 0 rfl) ?_
  refine lv_iconst (v := 2) hx hb dX10_setEnvelope_123 (by decide) ?_
  refine x_iadd (v := 481) hx hb dX10_setEnvelope_124 (by decide) ?_
  refine lv_iload hx hb dX10_setEnvelope_125 (lv_at hl 6 rfl) ?_
  refine x_iast (ws' := [(q51, .inl (g.2 0, 497, .inl (upd (upd (upd f54 479 x2) 480 x3) 481 x4))), (q53, .inl (g.2 0, 3976, .inl (cpF 497 (cpF 497 f54 f55) f55))), (q52, .inl (g.2 0, 497, .inl (cpF 497 f54 f55))), (q1, .inr (12, [.ref q51, w15, .ref q52, w17, .ref q53, .int 1, .int 0, w21, w22, w23, w24, w25, w26, w27, w28, w29, w30, w31, w32, w33, w34, w35, w36, w37, w38, w39, w40, w41, w42, w43, w44, w45, w46, w47, w48, w49, w50]))]) hx hb hE hP hD hS 0 rfl 481 (x_in (by decide)) (by decide) dX10_setEnvelope_127 rfl (fun H locs hP hD hS => ?_)
  refine lv_aload_n hx hb dX10_setEnvelope_128 rfl (lv_at hl 2 rfl) ?_
  refine gf_RX10_9 hx hb hown hE hP 3 rfl rfl dX10_setEnvelope_129 ?_
  refine lv_iload hx hb dX10_setEnvelope_132 (lv_at hl 0 rfl) ?_
  refine lv_iconst (v := 3) hx hb dX10_setEnvelope_134 (by decide) ?_
  refine x_iadd (v := 482) hx hb dX10_setEnvelope_135 (by decide) ?_
  refine lv_iload hx hb dX10_setEnvelope_136 (lv_at hl 7 rfl) ?_
  refine x_iast (ws' := [(q51, .inl (g.2 0, 497, .inl (upd (upd (upd (upd f54 479 x2) 480 x3) 481 x4) 482 x5))), (q53, .inl (g.2 0, 3976, .inl (cpF 497 (cpF 497 f54 f55) f55))), (q52, .inl (g.2 0, 497, .inl (cpF 497 f54 f55))), (q1, .inr (12, [.ref q51, w15, .ref q52, w17, .ref q53, .int 1, .int 0, w21, w22, w23, w24, w25, w26, w27, w28, w29, w30, w31, w32, w33, w34, w35, w36, w37, w38, w39, w40, w41, w42, w43, w44, w45, w46, w47, w48, w49, w50]))]) hx hb hE hP hD hS 0 rfl 482 (x_in (by decide)) (by decide) dX10_setEnvelope_138 rfl (fun H locs hP hD hS => ?_)
  refine lv_iconst (v := 0) hx hb dX10_setEnvelope_139 (by decide) ?_
  refine lv_istore (lv' := [(8, .int 0), (7, .int 479), (6, .int 1), (0, .ref q1), (1, .int 1), (2, .int x2), (3, .int x3), (4, .int x4), (5, .int x5)]) hx hb dX10_setEnvelope_140 hl (by decide) rfl (fun ls hl => ?_)
  refine lv_iconst (v := 0) hx hb dX10_setEnvelope_142 (by decide) ?_
  refine lv_istore (lv' := [(9, .int 0), (8, .int 0), (7, .int 479), (6, .int 1), (0, .ref q1), (1, .int 1), (2, .int x2), (3, .int x3), (4, .int x4), (5, .int x5)]) hx hb dX10_setEnvelope_143 hl (by decide) rfl (fun ls hl => ?_)
  refine lv_iload hx hb dX10_setEnvelope_145 (lv_at hl 0 rfl) ?_
  refine lv_iconst (v := 4) hx hb dX10_setEnvelope_147 (by decide) ?_
  refine lv_icmp_ge (tgt := 229) hx hb dX10_setEnvelope_148 (by decide) (fun h => absurd h (by decide)) (fun _ => ?_)
  refine lv_iconst (v := 1) hx hb dX10_setEnvelope_151 (by decide) ?_
  refine lv_istore (lv' := [(10, .int 1), (9, .int 0), (8, .int 0), (7, .int 479), (6, .int 1), (0, .ref q1), (1, .int 1), (2, .int x2), (3, .int x3), (4, .int x4), (5, .int x5)]) hx hb dX10_setEnvelope_152 hl (by decide) rfl (fun ls hl => ?_)
  refine lv_iconst (v := 0) hx hb dX10_setEnvelope_154 (by decide) ?_
  refine lv_istore (lv' := [(11, .int 0), (10, .int 1), (9, .int 0), (8, .int 0), (7, .int 479), (6, .int 1), (0, .ref q1), (1, .int 1), (2, .int x2), (3, .int x3), (4, .int x4), (5, .int x5)]) hx hb dX10_setEnvelope_155 hl (by decide) rfl (fun ls hl => ?_)
  refine lv_iload hx hb dX10_setEnvelope_157 (lv_at hl 0 rfl) ?_
  refine lv_iconst (v := 4) hx hb dX10_setEnvelope_159 (by decide) ?_
  refine lv_icmp_ge (tgt := 208) hx hb dX10_setEnvelope_160 (by decide) (fun h => absurd h (by decide)) (fun _ => ?_)
  refine lv_iload hx hb dX10_setEnvelope_163 (lv_at hl 1 rfl) ?_
  refine lv_aload_n hx hb dX10_setEnvelope_165 rfl (lv_at hl 6 rfl) ?_
  refine gf_RX10_9 hx hb hown hE hP 3 rfl rfl dX10_setEnvelope_166 ?_
  refine lv_sipush (v := 474) hx hb dX10_setEnvelope_169 (by decide) ?_
  refine lv_iconst (v := 5) hx hb dX10_setEnvelope_172 (by decide) ?_
  refine lv_iload hx hb dX10_setEnvelope_173 (lv_at hl 2 rfl) ?_
  refine x_imul (v := 0) hx hb dX10_setEnvelope_175 (by decide) ?_
  refine x_iadd (v := 474) hx hb dX10_setEnvelope_176 (by decide) ?_
  refine lv_iload hx hb dX10_setEnvelope_177 (lv_at hl 0 rfl) ?_
  refine x_iadd (v := 474) hx hb dX10_setEnvelope_179 (by decide) ?_
  refine x_iald (v := 0) hx hb hE hP 0 rfl 474 (x_in (by decide)) (by decide) ((pk_un (by decide)).trans ((pk_un (by decide)).trans ((pk_un (by decide)).trans ((pk_un (by decide)).trans hf56)))) dX10_setEnvelope_180 ?_
  refine lv_aload_n hx hb dX10_setEnvelope_181 rfl (lv_at hl 6 rfl) ?_
  refine gf_RX10_9 hx hb hown hE hP 3 rfl rfl dX10_setEnvelope_182 ?_
  refine lv_iload hx hb dX10_setEnvelope_185 (lv_at hl 4 rfl) ?_
  refine lv_iload hx hb dX10_setEnvelope_187 (lv_at hl 0 rfl) ?_
  refine x_iadd (v := 479) hx hb dX10_setEnvelope_189 (by decide) ?_
  refine x_iald (v := x2) hx hb hE hP 0 rfl 479 (x_in (by decide)) (by decide) ((pk_un (by decide)).trans ((pk_un (by decide)).trans ((pk_un (by decide)).trans pk_us))) dX10_setEnvelope_190 ?_
  refine lv_icmp_ne (tgt := 198) hx hb dX10_setEnvelope_191 (by decide) (fun h => absurd h (i_nne h57)) (fun _ => ?_)
  refine lv_iconst (v := 1) hx hb dX10_setEnvelope_194 (by decide) ?_
  refine lv_goto (tgt := 199) hx hb dX10_setEnvelope_195 (by decide) ?_
  refine x_iand (v := 1) hx hb dX10_setEnvelope_199 (by decide) ?_
  refine lv_istore (lv' := [(10, .int 1), (11, .int 0), (9, .int 0), (8, .int 0), (7, .int 479), (6, .int 1), (0, .ref q1), (1, .int 1), (2, .int x2), (3, .int x3), (4, .int x4), (5, .int x5)]) hx hb dX10_setEnvelope_200 hl (by decide) rfl (fun ls hl => ?_)
  refine lv_iinc (v := 1) (lv' := [(11, .int 1), (10, .int 1), (9, .int 0), (8, .int 0), (7, .int 479), (6, .int 1), (0, .ref q1), (1, .int 1), (2, .int x2), (3, .int x3), (4, .int x4), (5, .int x5)]) hx hb dX10_setEnvelope_202 hl (k := 1) rfl (by decide) (by decide) rfl (fun ls hl => ?_)
  refine lv_goto (tgt := 157) hx hb dX10_setEnvelope_205 (by decide) ?_
  refine lv_iload hx hb dX10_setEnvelope_157 (lv_at hl 0 rfl) ?_
  refine lv_iconst (v := 4) hx hb dX10_setEnvelope_159 (by decide) ?_
  refine lv_icmp_ge (tgt := 208) hx hb dX10_setEnvelope_160 (by decide) (fun h => absurd h (by decide)) (fun _ => ?_)
  refine lv_iload hx hb dX10_setEnvelope_163 (lv_at hl 1 rfl) ?_
  refine lv_aload_n hx hb dX10_setEnvelope_165 rfl (lv_at hl 6 rfl) ?_
  refine gf_RX10_9 hx hb hown hE hP 3 rfl rfl dX10_setEnvelope_166 ?_
  refine lv_sipush (v := 474) hx hb dX10_setEnvelope_169 (by decide) ?_
  refine lv_iconst (v := 5) hx hb dX10_setEnvelope_172 (by decide) ?_
  refine lv_iload hx hb dX10_setEnvelope_173 (lv_at hl 2 rfl) ?_
  refine x_imul (v := 0) hx hb dX10_setEnvelope_175 (by decide) ?_
  refine x_iadd (v := 474) hx hb dX10_setEnvelope_176 (by decide) ?_
  refine lv_iload hx hb dX10_setEnvelope_177 (lv_at hl 0 rfl) ?_
  refine x_iadd (v := 475) hx hb dX10_setEnvelope_179 (by decide) ?_
  refine x_iald (v := 0) hx hb hE hP 0 rfl 475 (x_in (by decide)) (by decide) ((pk_un (by decide)).trans ((pk_un (by decide)).trans ((pk_un (by decide)).trans ((pk_un (by decide)).trans hf58)))) dX10_setEnvelope_180 ?_
  refine lv_aload_n hx hb dX10_setEnvelope_181 rfl (lv_at hl 6 rfl) ?_
  refine gf_RX10_9 hx hb hown hE hP 3 rfl rfl dX10_setEnvelope_182 ?_
  refine lv_iload hx hb dX10_setEnvelope_185 (lv_at hl 4 rfl) ?_
  refine lv_iload hx hb dX10_setEnvelope_187 (lv_at hl 0 rfl) ?_
  refine x_iadd (v := 480) hx hb dX10_setEnvelope_189 (by decide) ?_
  refine x_iald (v := x3) hx hb hE hP 0 rfl 480 (x_in (by decide)) (by decide) ((pk_un (by decide)).trans ((pk_un (by decide)).trans pk_us)) dX10_setEnvelope_190 ?_
  refine lv_icmp_ne (tgt := 198) hx hb dX10_setEnvelope_191 (by decide) (fun h => absurd h (i_nne h59)) (fun _ => ?_)
  refine lv_iconst (v := 1) hx hb dX10_setEnvelope_194 (by decide) ?_
  refine lv_goto (tgt := 199) hx hb dX10_setEnvelope_195 (by decide) ?_
  refine x_iand (v := 1) hx hb dX10_setEnvelope_199 (by decide) ?_
  refine lv_istore (lv' := [(10, .int 1), (11, .int 1), (9, .int 0), (8, .int 0), (7, .int 479), (6, .int 1), (0, .ref q1), (1, .int 1), (2, .int x2), (3, .int x3), (4, .int x4), (5, .int x5)]) hx hb dX10_setEnvelope_200 hl (by decide) rfl (fun ls hl => ?_)
  refine lv_iinc (v := 2) (lv' := [(11, .int 2), (10, .int 1), (9, .int 0), (8, .int 0), (7, .int 479), (6, .int 1), (0, .ref q1), (1, .int 1), (2, .int x2), (3, .int x3), (4, .int x4), (5, .int x5)]) hx hb dX10_setEnvelope_202 hl (k := 1) rfl (by decide) (by decide) rfl (fun ls hl => ?_)
  refine lv_goto (tgt := 157) hx hb dX10_setEnvelope_205 (by decide) ?_
  refine lv_iload hx hb dX10_setEnvelope_157 (lv_at hl 0 rfl) ?_
  refine lv_iconst (v := 4) hx hb dX10_setEnvelope_159 (by decide) ?_
  refine lv_icmp_ge (tgt := 208) hx hb dX10_setEnvelope_160 (by decide) (fun h => absurd h (by decide)) (fun _ => ?_)
  refine lv_iload hx hb dX10_setEnvelope_163 (lv_at hl 1 rfl) ?_
  refine lv_aload_n hx hb dX10_setEnvelope_165 rfl (lv_at hl 6 rfl) ?_
  refine gf_RX10_9 hx hb hown hE hP 3 rfl rfl dX10_setEnvelope_166 ?_
  refine lv_sipush (v := 474) hx hb dX10_setEnvelope_169 (by decide) ?_
  refine lv_iconst (v := 5) hx hb dX10_setEnvelope_172 (by decide) ?_
  refine lv_iload hx hb dX10_setEnvelope_173 (lv_at hl 2 rfl) ?_
  refine x_imul (v := 0) hx hb dX10_setEnvelope_175 (by decide) ?_
  refine x_iadd (v := 474) hx hb dX10_setEnvelope_176 (by decide) ?_
  refine lv_iload hx hb dX10_setEnvelope_177 (lv_at hl 0 rfl) ?_
  refine x_iadd (v := 476) hx hb dX10_setEnvelope_179 (by decide) ?_
  refine x_iald (v := 100) hx hb hE hP 0 rfl 476 (x_in (by decide)) (by decide) ((pk_un (by decide)).trans ((pk_un (by decide)).trans ((pk_un (by decide)).trans ((pk_un (by decide)).trans hf60)))) dX10_setEnvelope_180 ?_
  refine lv_aload_n hx hb dX10_setEnvelope_181 rfl (lv_at hl 6 rfl) ?_
  refine gf_RX10_9 hx hb hown hE hP 3 rfl rfl dX10_setEnvelope_182 ?_
  refine lv_iload hx hb dX10_setEnvelope_185 (lv_at hl 4 rfl) ?_
  refine lv_iload hx hb dX10_setEnvelope_187 (lv_at hl 0 rfl) ?_
  refine x_iadd (v := 481) hx hb dX10_setEnvelope_189 (by decide) ?_
  refine x_iald (v := x4) hx hb hE hP 0 rfl 481 (x_in (by decide)) (by decide) ((pk_un (by decide)).trans pk_us) dX10_setEnvelope_190 ?_
  refine lv_icmp_ne (tgt := 198) hx hb dX10_setEnvelope_191 (by decide) (fun h => absurd h (i_nne h61)) (fun _ => ?_)
  refine lv_iconst (v := 1) hx hb dX10_setEnvelope_194 (by decide) ?_
  refine lv_goto (tgt := 199) hx hb dX10_setEnvelope_195 (by decide) ?_
  refine x_iand (v := 1) hx hb dX10_setEnvelope_199 (by decide) ?_
  refine lv_istore (lv' := [(10, .int 1), (11, .int 2), (9, .int 0), (8, .int 0), (7, .int 479), (6, .int 1), (0, .ref q1), (1, .int 1), (2, .int x2), (3, .int x3), (4, .int x4), (5, .int x5)]) hx hb dX10_setEnvelope_200 hl (by decide) rfl (fun ls hl => ?_)
  refine lv_iinc (v := 3) (lv' := [(11, .int 3), (10, .int 1), (9, .int 0), (8, .int 0), (7, .int 479), (6, .int 1), (0, .ref q1), (1, .int 1), (2, .int x2), (3, .int x3), (4, .int x4), (5, .int x5)]) hx hb dX10_setEnvelope_202 hl (k := 1) rfl (by decide) (by decide) rfl (fun ls hl => ?_)
  refine lv_goto (tgt := 157) hx hb dX10_setEnvelope_205 (by decide) ?_
  refine lv_iload hx hb dX10_setEnvelope_157 (lv_at hl 0 rfl) ?_
  refine lv_iconst (v := 4) hx hb dX10_setEnvelope_159 (by decide) ?_
  refine lv_icmp_ge (tgt := 208) hx hb dX10_setEnvelope_160 (by decide) (fun h => absurd h (by decide)) (fun _ => ?_)
  refine lv_iload hx hb dX10_setEnvelope_163 (lv_at hl 1 rfl) ?_
  refine lv_aload_n hx hb dX10_setEnvelope_165 rfl (lv_at hl 6 rfl) ?_
  refine gf_RX10_9 hx hb hown hE hP 3 rfl rfl dX10_setEnvelope_166 ?_
  refine lv_sipush (v := 474) hx hb dX10_setEnvelope_169 (by decide) ?_
  refine lv_iconst (v := 5) hx hb dX10_setEnvelope_172 (by decide) ?_
  refine lv_iload hx hb dX10_setEnvelope_173 (lv_at hl 2 rfl) ?_
  refine x_imul (v := 0) hx hb dX10_setEnvelope_175 (by decide) ?_
  refine x_iadd (v := 474) hx hb dX10_setEnvelope_176 (by decide) ?_
  refine lv_iload hx hb dX10_setEnvelope_177 (lv_at hl 0 rfl) ?_
  refine x_iadd (v := 477) hx hb dX10_setEnvelope_179 (by decide) ?_
  refine x_iald (v := 0) hx hb hE hP 0 rfl 477 (x_in (by decide)) (by decide) ((pk_un (by decide)).trans ((pk_un (by decide)).trans ((pk_un (by decide)).trans ((pk_un (by decide)).trans hf62)))) dX10_setEnvelope_180 ?_
  refine lv_aload_n hx hb dX10_setEnvelope_181 rfl (lv_at hl 6 rfl) ?_
  refine gf_RX10_9 hx hb hown hE hP 3 rfl rfl dX10_setEnvelope_182 ?_
  refine lv_iload hx hb dX10_setEnvelope_185 (lv_at hl 4 rfl) ?_
  refine lv_iload hx hb dX10_setEnvelope_187 (lv_at hl 0 rfl) ?_
  refine x_iadd (v := 482) hx hb dX10_setEnvelope_189 (by decide) ?_
  refine x_iald (v := x5) hx hb hE hP 0 rfl 482 (x_in (by decide)) (by decide) pk_us dX10_setEnvelope_190 ?_
  refine lv_icmp_ne (tgt := 198) hx hb dX10_setEnvelope_191 (by decide) (fun _ => ?_) (fun h => absurd h h63)
  refine lv_iconst (v := 0) hx hb dX10_setEnvelope_198 (by decide) ?_
  refine x_iand (v := 0) hx hb dX10_setEnvelope_199 (by decide) ?_
  refine lv_istore (lv' := [(10, .int 0), (11, .int 3), (9, .int 0), (8, .int 0), (7, .int 479), (6, .int 1), (0, .ref q1), (1, .int 1), (2, .int x2), (3, .int x3), (4, .int x4), (5, .int x5)]) hx hb dX10_setEnvelope_200 hl (by decide) rfl (fun ls hl => ?_)
  refine lv_iinc (v := 4) (lv' := [(11, .int 4), (10, .int 0), (9, .int 0), (8, .int 0), (7, .int 479), (6, .int 1), (0, .ref q1), (1, .int 1), (2, .int x2), (3, .int x3), (4, .int x4), (5, .int x5)]) hx hb dX10_setEnvelope_202 hl (k := 1) rfl (by decide) (by decide) rfl (fun ls hl => ?_)
  refine lv_goto (tgt := 157) hx hb dX10_setEnvelope_205 (by decide) ?_
  refine lv_iload hx hb dX10_setEnvelope_157 (lv_at hl 0 rfl) ?_
  refine lv_iconst (v := 4) hx hb dX10_setEnvelope_159 (by decide) ?_
  refine lv_icmp_ge (tgt := 208) hx hb dX10_setEnvelope_160 (by decide) (fun _ => ?_) (fun h => absurd (by decide) h)
  refine lv_iload hx hb dX10_setEnvelope_208 (lv_at hl 3 rfl) ?_
  refine lv_iload hx hb dX10_setEnvelope_210 (lv_at hl 1 rfl) ?_
  refine lv_if_eq (tgt := 219) hx hb dX10_setEnvelope_212 (by decide) (fun _ => ?_) (fun h => absurd (by decide) h)
  refine lv_iconst (v := 0) hx hb dX10_setEnvelope_219 (by decide) ?_
  refine x_iadd (v := 0) hx hb dX10_setEnvelope_220 (by decide) ?_
  refine lv_istore (lv' := [(8, .int 0), (11, .int 4), (10, .int 0), (9, .int 0), (7, .int 479), (6, .int 1), (0, .ref q1), (1, .int 1), (2, .int x2), (3, .int x3), (4, .int x4), (5, .int x5)]) hx hb dX10_setEnvelope_221 hl (by decide) rfl (fun ls hl => ?_)
  refine lv_iinc (v := 1) (lv' := [(9, .int 1), (8, .int 0), (11, .int 4), (10, .int 0), (7, .int 479), (6, .int 1), (0, .ref q1), (1, .int 1), (2, .int x2), (3, .int x3), (4, .int x4), (5, .int x5)]) hx hb dX10_setEnvelope_223 hl (k := 3) rfl (by decide) (by decide) rfl (fun ls hl => ?_)
  refine lv_goto (tgt := 145) hx hb dX10_setEnvelope_226 (by decide) ?_
  refine lv_iload hx hb dX10_setEnvelope_145 (lv_at hl 0 rfl) ?_
  refine lv_iconst (v := 4) hx hb dX10_setEnvelope_147 (by decide) ?_
  refine lv_icmp_ge (tgt := 229) hx hb dX10_setEnvelope_148 (by decide) (fun h => absurd h (by decide)) (fun _ => ?_)
  refine lv_iconst (v := 1) hx hb dX10_setEnvelope_151 (by decide) ?_
  refine lv_istore (lv' := [(10, .int 1), (9, .int 1), (8, .int 0), (11, .int 4), (7, .int 479), (6, .int 1), (0, .ref q1), (1, .int 1), (2, .int x2), (3, .int x3), (4, .int x4), (5, .int x5)]) hx hb dX10_setEnvelope_152 hl (by decide) rfl (fun ls hl => ?_)
  refine lv_iconst (v := 0) hx hb dX10_setEnvelope_154 (by decide) ?_
  refine lv_istore (lv' := [(11, .int 0), (10, .int 1), (9, .int 1), (8, .int 0), (7, .int 479), (6, .int 1), (0, .ref q1), (1, .int 1), (2, .int x2), (3, .int x3), (4, .int x4), (5, .int x5)]) hx hb dX10_setEnvelope_155 hl (by decide) rfl (fun ls hl => ?_)
  refine lv_iload hx hb dX10_setEnvelope_157 (lv_at hl 0 rfl) ?_
  refine lv_iconst (v := 4) hx hb dX10_setEnvelope_159 (by decide) ?_
  refine lv_icmp_ge (tgt := 208) hx hb dX10_setEnvelope_160 (by decide) (fun h => absurd h (by decide)) (fun _ => ?_)
  refine lv_iload hx hb dX10_setEnvelope_163 (lv_at hl 1 rfl) ?_
  refine lv_aload_n hx hb dX10_setEnvelope_165 rfl (lv_at hl 6 rfl) ?_
  refine gf_RX10_9 hx hb hown hE hP 3 rfl rfl dX10_setEnvelope_166 ?_
  refine lv_sipush (v := 474) hx hb dX10_setEnvelope_169 (by decide) ?_
  refine lv_iconst (v := 5) hx hb dX10_setEnvelope_172 (by decide) ?_
  refine lv_iload hx hb dX10_setEnvelope_173 (lv_at hl 2 rfl) ?_
  refine x_imul (v := 5) hx hb dX10_setEnvelope_175 (by decide) ?_
  refine x_iadd (v := 479) hx hb dX10_setEnvelope_176 (by decide) ?_
  refine lv_iload hx hb dX10_setEnvelope_177 (lv_at hl 0 rfl) ?_
  refine x_iadd (v := 479) hx hb dX10_setEnvelope_179 (by decide) ?_
  refine x_iald (v := x2) hx hb hE hP 0 rfl 479 (x_in (by decide)) (by decide) ((pk_un (by decide)).trans ((pk_un (by decide)).trans ((pk_un (by decide)).trans pk_us))) dX10_setEnvelope_180 ?_
  refine lv_aload_n hx hb dX10_setEnvelope_181 rfl (lv_at hl 6 rfl) ?_
  refine gf_RX10_9 hx hb hown hE hP 3 rfl rfl dX10_setEnvelope_182 ?_
  refine lv_iload hx hb dX10_setEnvelope_185 (lv_at hl 4 rfl) ?_
  refine lv_iload hx hb dX10_setEnvelope_187 (lv_at hl 0 rfl) ?_
  refine x_iadd (v := 479) hx hb dX10_setEnvelope_189 (by decide) ?_
  refine x_iald (v := x2) hx hb hE hP 0 rfl 479 (x_in (by decide)) (by decide) ((pk_un (by decide)).trans ((pk_un (by decide)).trans ((pk_un (by decide)).trans pk_us))) dX10_setEnvelope_190 ?_
  refine lv_icmp_ne (tgt := 198) hx hb dX10_setEnvelope_191 (by decide) (fun h => absurd h (i_nne rfl)) (fun _ => ?_)
  refine lv_iconst (v := 1) hx hb dX10_setEnvelope_194 (by decide) ?_
  refine lv_goto (tgt := 199) hx hb dX10_setEnvelope_195 (by decide) ?_
  refine x_iand (v := 1) hx hb dX10_setEnvelope_199 (by decide) ?_
  refine lv_istore (lv' := [(10, .int 1), (11, .int 0), (9, .int 1), (8, .int 0), (7, .int 479), (6, .int 1), (0, .ref q1), (1, .int 1), (2, .int x2), (3, .int x3), (4, .int x4), (5, .int x5)]) hx hb dX10_setEnvelope_200 hl (by decide) rfl (fun ls hl => ?_)
  refine lv_iinc (v := 1) (lv' := [(11, .int 1), (10, .int 1), (9, .int 1), (8, .int 0), (7, .int 479), (6, .int 1), (0, .ref q1), (1, .int 1), (2, .int x2), (3, .int x3), (4, .int x4), (5, .int x5)]) hx hb dX10_setEnvelope_202 hl (k := 1) rfl (by decide) (by decide) rfl (fun ls hl => ?_)
  refine lv_goto (tgt := 157) hx hb dX10_setEnvelope_205 (by decide) ?_
  refine lv_iload hx hb dX10_setEnvelope_157 (lv_at hl 0 rfl) ?_
  refine lv_iconst (v := 4) hx hb dX10_setEnvelope_159 (by decide) ?_
  refine lv_icmp_ge (tgt := 208) hx hb dX10_setEnvelope_160 (by decide) (fun h => absurd h (by decide)) (fun _ => ?_)
  refine lv_iload hx hb dX10_setEnvelope_163 (lv_at hl 1 rfl) ?_
  refine lv_aload_n hx hb dX10_setEnvelope_165 rfl (lv_at hl 6 rfl) ?_
  refine gf_RX10_9 hx hb hown hE hP 3 rfl rfl dX10_setEnvelope_166 ?_
  refine lv_sipush (v := 474) hx hb dX10_setEnvelope_169 (by decide) ?_
  refine lv_iconst (v := 5) hx hb dX10_setEnvelope_172 (by decide) ?_
  refine lv_iload hx hb dX10_setEnvelope_173 (lv_at hl 2 rfl) ?_
  refine x_imul (v := 5) hx hb dX10_setEnvelope_175 (by decide) ?_
  refine x_iadd (v := 479) hx hb dX10_setEnvelope_176 (by decide) ?_
  refine lv_iload hx hb dX10_setEnvelope_177 (lv_at hl 0 rfl) ?_
  refine x_iadd (v := 480) hx hb dX10_setEnvelope_179 (by decide) ?_
  refine x_iald (v := x3) hx hb hE hP 0 rfl 480 (x_in (by decide)) (by decide) ((pk_un (by decide)).trans ((pk_un (by decide)).trans pk_us)) dX10_setEnvelope_180 ?_
  refine lv_aload_n hx hb dX10_setEnvelope_181 rfl (lv_at hl 6 rfl) ?_
  refine gf_RX10_9 hx hb hown hE hP 3 rfl rfl dX10_setEnvelope_182 ?_
  refine lv_iload hx hb dX10_setEnvelope_185 (lv_at hl 4 rfl) ?_
  refine lv_iload hx hb dX10_setEnvelope_187 (lv_at hl 0 rfl) ?_
  refine x_iadd (v := 480) hx hb dX10_setEnvelope_189 (by decide) ?_
  refine x_iald (v := x3) hx hb hE hP 0 rfl 480 (x_in (by decide)) (by decide) ((pk_un (by decide)).trans ((pk_un (by decide)).trans pk_us)) dX10_setEnvelope_190 ?_
  refine lv_icmp_ne (tgt := 198) hx hb dX10_setEnvelope_191 (by decide) (fun h => absurd h (i_nne rfl)) (fun _ => ?_)
  refine lv_iconst (v := 1) hx hb dX10_setEnvelope_194 (by decide) ?_
  refine lv_goto (tgt := 199) hx hb dX10_setEnvelope_195 (by decide) ?_
  refine x_iand (v := 1) hx hb dX10_setEnvelope_199 (by decide) ?_
  refine lv_istore (lv' := [(10, .int 1), (11, .int 1), (9, .int 1), (8, .int 0), (7, .int 479), (6, .int 1), (0, .ref q1), (1, .int 1), (2, .int x2), (3, .int x3), (4, .int x4), (5, .int x5)]) hx hb dX10_setEnvelope_200 hl (by decide) rfl (fun ls hl => ?_)
  refine lv_iinc (v := 2) (lv' := [(11, .int 2), (10, .int 1), (9, .int 1), (8, .int 0), (7, .int 479), (6, .int 1), (0, .ref q1), (1, .int 1), (2, .int x2), (3, .int x3), (4, .int x4), (5, .int x5)]) hx hb dX10_setEnvelope_202 hl (k := 1) rfl (by decide) (by decide) rfl (fun ls hl => ?_)
  refine lv_goto (tgt := 157) hx hb dX10_setEnvelope_205 (by decide) ?_
  refine lv_iload hx hb dX10_setEnvelope_157 (lv_at hl 0 rfl) ?_
  refine lv_iconst (v := 4) hx hb dX10_setEnvelope_159 (by decide) ?_
  refine lv_icmp_ge (tgt := 208) hx hb dX10_setEnvelope_160 (by decide) (fun h => absurd h (by decide)) (fun _ => ?_)
  refine lv_iload hx hb dX10_setEnvelope_163 (lv_at hl 1 rfl) ?_
  refine lv_aload_n hx hb dX10_setEnvelope_165 rfl (lv_at hl 6 rfl) ?_
  refine gf_RX10_9 hx hb hown hE hP 3 rfl rfl dX10_setEnvelope_166 ?_
  refine lv_sipush (v := 474) hx hb dX10_setEnvelope_169 (by decide) ?_
  refine lv_iconst (v := 5) hx hb dX10_setEnvelope_172 (by decide) ?_
  refine lv_iload hx hb dX10_setEnvelope_173 (lv_at hl 2 rfl) ?_
  refine x_imul (v := 5) hx hb dX10_setEnvelope_175 (by decide) ?_
  refine x_iadd (v := 479) hx hb dX10_setEnvelope_176 (by decide) ?_
  refine lv_iload hx hb dX10_setEnvelope_177 (lv_at hl 0 rfl) ?_
  refine x_iadd (v := 481) hx hb dX10_setEnvelope_179 (by decide) ?_
  refine x_iald (v := x4) hx hb hE hP 0 rfl 481 (x_in (by decide)) (by decide) ((pk_un (by decide)).trans pk_us) dX10_setEnvelope_180 ?_
  refine lv_aload_n hx hb dX10_setEnvelope_181 rfl (lv_at hl 6 rfl) ?_
  refine gf_RX10_9 hx hb hown hE hP 3 rfl rfl dX10_setEnvelope_182 ?_
  refine lv_iload hx hb dX10_setEnvelope_185 (lv_at hl 4 rfl) ?_
  refine lv_iload hx hb dX10_setEnvelope_187 (lv_at hl 0 rfl) ?_
  refine x_iadd (v := 481) hx hb dX10_setEnvelope_189 (by decide) ?_
  refine x_iald (v := x4) hx hb hE hP 0 rfl 481 (x_in (by decide)) (by decide) ((pk_un (by decide)).trans pk_us) dX10_setEnvelope_190 ?_
  refine lv_icmp_ne (tgt := 198) hx hb dX10_setEnvelope_191 (by decide) (fun h => absurd h (i_nne rfl)) (fun _ => ?_)
  refine lv_iconst (v := 1) hx hb dX10_setEnvelope_194 (by decide) ?_
  refine lv_goto (tgt := 199) hx hb dX10_setEnvelope_195 (by decide) ?_
  refine x_iand (v := 1) hx hb dX10_setEnvelope_199 (by decide) ?_
  refine lv_istore (lv' := [(10, .int 1), (11, .int 2), (9, .int 1), (8, .int 0), (7, .int 479), (6, .int 1), (0, .ref q1), (1, .int 1), (2, .int x2), (3, .int x3), (4, .int x4), (5, .int x5)]) hx hb dX10_setEnvelope_200 hl (by decide) rfl (fun ls hl => ?_)
  refine lv_iinc (v := 3) (lv' := [(11, .int 3), (10, .int 1), (9, .int 1), (8, .int 0), (7, .int 479), (6, .int 1), (0, .ref q1), (1, .int 1), (2, .int x2), (3, .int x3), (4, .int x4), (5, .int x5)]) hx hb dX10_setEnvelope_202 hl (k := 1) rfl (by decide) (by decide) rfl (fun ls hl => ?_)
  refine lv_goto (tgt := 157) hx hb dX10_setEnvelope_205 (by decide) ?_
  refine lv_iload hx hb dX10_setEnvelope_157 (lv_at hl 0 rfl) ?_
  refine lv_iconst (v := 4) hx hb dX10_setEnvelope_159 (by decide) ?_
  refine lv_icmp_ge (tgt := 208) hx hb dX10_setEnvelope_160 (by decide) (fun h => absurd h (by decide)) (fun _ => ?_)
  refine lv_iload hx hb dX10_setEnvelope_163 (lv_at hl 1 rfl) ?_
  refine lv_aload_n hx hb dX10_setEnvelope_165 rfl (lv_at hl 6 rfl) ?_
  refine gf_RX10_9 hx hb hown hE hP 3 rfl rfl dX10_setEnvelope_166 ?_
  refine lv_sipush (v := 474) hx hb dX10_setEnvelope_169 (by decide) ?_
  refine lv_iconst (v := 5) hx hb dX10_setEnvelope_172 (by decide) ?_
  refine lv_iload hx hb dX10_setEnvelope_173 (lv_at hl 2 rfl) ?_
  refine x_imul (v := 5) hx hb dX10_setEnvelope_175 (by decide) ?_
  refine x_iadd (v := 479) hx hb dX10_setEnvelope_176 (by decide) ?_
  refine lv_iload hx hb dX10_setEnvelope_177 (lv_at hl 0 rfl) ?_
  refine x_iadd (v := 482) hx hb dX10_setEnvelope_179 (by decide) ?_
  refine x_iald (v := x5) hx hb hE hP 0 rfl 482 (x_in (by decide)) (by decide) pk_us dX10_setEnvelope_180 ?_
  refine lv_aload_n hx hb dX10_setEnvelope_181 rfl (lv_at hl 6 rfl) ?_
  refine gf_RX10_9 hx hb hown hE hP 3 rfl rfl dX10_setEnvelope_182 ?_
  refine lv_iload hx hb dX10_setEnvelope_185 (lv_at hl 4 rfl) ?_
  refine lv_iload hx hb dX10_setEnvelope_187 (lv_at hl 0 rfl) ?_
  refine x_iadd (v := 482) hx hb dX10_setEnvelope_189 (by decide) ?_
  refine x_iald (v := x5) hx hb hE hP 0 rfl 482 (x_in (by decide)) (by decide) pk_us dX10_setEnvelope_190 ?_
  refine lv_icmp_ne (tgt := 198) hx hb dX10_setEnvelope_191 (by decide) (fun h => absurd h (i_nne rfl)) (fun _ => ?_)
  refine lv_iconst (v := 1) hx hb dX10_setEnvelope_194 (by decide) ?_
  refine lv_goto (tgt := 199) hx hb dX10_setEnvelope_195 (by decide) ?_
  refine x_iand (v := 1) hx hb dX10_setEnvelope_199 (by decide) ?_
  refine lv_istore (lv' := [(10, .int 1), (11, .int 3), (9, .int 1), (8, .int 0), (7, .int 479), (6, .int 1), (0, .ref q1), (1, .int 1), (2, .int x2), (3, .int x3), (4, .int x4), (5, .int x5)]) hx hb dX10_setEnvelope_200 hl (by decide) rfl (fun ls hl => ?_)
  refine lv_iinc (v := 4) (lv' := [(11, .int 4), (10, .int 1), (9, .int 1), (8, .int 0), (7, .int 479), (6, .int 1), (0, .ref q1), (1, .int 1), (2, .int x2), (3, .int x3), (4, .int x4), (5, .int x5)]) hx hb dX10_setEnvelope_202 hl (k := 1) rfl (by decide) (by decide) rfl (fun ls hl => ?_)
  refine lv_goto (tgt := 157) hx hb dX10_setEnvelope_205 (by decide) ?_
  refine lv_iload hx hb dX10_setEnvelope_157 (lv_at hl 0 rfl) ?_
  refine lv_iconst (v := 4) hx hb dX10_setEnvelope_159 (by decide) ?_
  refine lv_icmp_ge (tgt := 208) hx hb dX10_setEnvelope_160 (by decide) (fun _ => ?_) (fun h => absurd (by decide) h)
  refine lv_iload hx hb dX10_setEnvelope_208 (lv_at hl 3 rfl) ?_
  refine lv_iload hx hb dX10_setEnvelope_210 (lv_at hl 1 rfl) ?_
  refine lv_if_eq (tgt := 219) hx hb dX10_setEnvelope_212 (by decide) (fun h => absurd h (by decide)) (fun _ => ?_)
  refine lv_iconst (v := 1) hx hb dX10_setEnvelope_215 (by decide) ?_
  refine lv_goto (tgt := 220) hx hb dX10_setEnvelope_216 (by decide) ?_
  refine x_iadd (v := 1) hx hb dX10_setEnvelope_220 (by decide) ?_
  refine lv_istore (lv' := [(8, .int 1), (11, .int 4), (10, .int 1), (9, .int 1), (7, .int 479), (6, .int 1), (0, .ref q1), (1, .int 1), (2, .int x2), (3, .int x3), (4, .int x4), (5, .int x5)]) hx hb dX10_setEnvelope_221 hl (by decide) rfl (fun ls hl => ?_)
  refine lv_iinc (v := 2) (lv' := [(9, .int 2), (8, .int 1), (11, .int 4), (10, .int 1), (7, .int 479), (6, .int 1), (0, .ref q1), (1, .int 1), (2, .int x2), (3, .int x3), (4, .int x4), (5, .int x5)]) hx hb dX10_setEnvelope_223 hl (k := 3) rfl (by decide) (by decide) rfl (fun ls hl => ?_)
  refine lv_goto (tgt := 145) hx hb dX10_setEnvelope_226 (by decide) ?_
  refine lv_iload hx hb dX10_setEnvelope_145 (lv_at hl 0 rfl) ?_
  refine lv_iconst (v := 4) hx hb dX10_setEnvelope_147 (by decide) ?_
  refine lv_icmp_ge (tgt := 229) hx hb dX10_setEnvelope_148 (by decide) (fun h => absurd h (by decide)) (fun _ => ?_)
  refine lv_iconst (v := 1) hx hb dX10_setEnvelope_151 (by decide) ?_
  refine lv_istore (lv' := [(10, .int 1), (9, .int 2), (8, .int 1), (11, .int 4), (7, .int 479), (6, .int 1), (0, .ref q1), (1, .int 1), (2, .int x2), (3, .int x3), (4, .int x4), (5, .int x5)]) hx hb dX10_setEnvelope_152 hl (by decide) rfl (fun ls hl => ?_)
  refine lv_iconst (v := 0) hx hb dX10_setEnvelope_154 (by decide) ?_
  refine lv_istore (lv' := [(11, .int 0), (10, .int 1), (9, .int 2), (8, .int 1), (7, .int 479), (6, .int 1), (0, .ref q1), (1, .int 1), (2, .int x2), (3, .int x3), (4, .int x4), (5, .int x5)]) hx hb dX10_setEnvelope_155 hl (by decide) rfl (fun ls hl => ?_)
  refine lv_iload hx hb dX10_setEnvelope_157 (lv_at hl 0 rfl) ?_
  refine lv_iconst (v := 4) hx hb dX10_setEnvelope_159 (by decide) ?_
  refine lv_icmp_ge (tgt := 208) hx hb dX10_setEnvelope_160 (by decide) (fun h => absurd h (by decide)) (fun _ => ?_)
  refine lv_iload hx hb dX10_setEnvelope_163 (lv_at hl 1 rfl) ?_
  refine lv_aload_n hx hb dX10_setEnvelope_165 rfl (lv_at hl 6 rfl) ?_
  refine gf_RX10_9 hx hb hown hE hP 3 rfl rfl dX10_setEnvelope_166 ?_
  refine lv_sipush (v := 474) hx hb dX10_setEnvelope_169 (by decide) ?_
  refine lv_iconst (v := 5) hx hb dX10_setEnvelope_172 (by decide) ?_
  refine lv_iload hx hb dX10_setEnvelope_173 (lv_at hl 2 rfl) ?_
  refine x_imul (v := 10) hx hb dX10_setEnvelope_175 (by decide) ?_
  refine x_iadd (v := 484) hx hb dX10_setEnvelope_176 (by decide) ?_
  refine lv_iload hx hb dX10_setEnvelope_177 (lv_at hl 0 rfl) ?_
  refine x_iadd (v := 484) hx hb dX10_setEnvelope_179 (by decide) ?_
  refine x_iald (v := 0) hx hb hE hP 0 rfl 484 (x_in (by decide)) (by decide) ((pk_un (by decide)).trans ((pk_un (by decide)).trans ((pk_un (by decide)).trans ((pk_un (by decide)).trans hf64)))) dX10_setEnvelope_180 ?_
  refine lv_aload_n hx hb dX10_setEnvelope_181 rfl (lv_at hl 6 rfl) ?_
  refine gf_RX10_9 hx hb hown hE hP 3 rfl rfl dX10_setEnvelope_182 ?_
  refine lv_iload hx hb dX10_setEnvelope_185 (lv_at hl 4 rfl) ?_
  refine lv_iload hx hb dX10_setEnvelope_187 (lv_at hl 0 rfl) ?_
  refine x_iadd (v := 479) hx hb dX10_setEnvelope_189 (by decide) ?_
  refine x_iald (v := x2) hx hb hE hP 0 rfl 479 (x_in (by decide)) (by decide) ((pk_un (by decide)).trans ((pk_un (by decide)).trans ((pk_un (by decide)).trans pk_us))) dX10_setEnvelope_190 ?_
  refine lv_icmp_ne (tgt := 198) hx hb dX10_setEnvelope_191 (by decide) (fun h => absurd h (i_nne h57)) (fun _ => ?_)
  refine lv_iconst (v := 1) hx hb dX10_setEnvelope_194 (by decide) ?_
  refine lv_goto (tgt := 199) hx hb dX10_setEnvelope_195 (by decide) ?_
  refine x_iand (v := 1) hx hb dX10_setEnvelope_199 (by decide) ?_
  refine lv_istore (lv' := [(10, .int 1), (11, .int 0), (9, .int 2), (8, .int 1), (7, .int 479), (6, .int 1), (0, .ref q1), (1, .int 1), (2, .int x2), (3, .int x3), (4, .int x4), (5, .int x5)]) hx hb dX10_setEnvelope_200 hl (by decide) rfl (fun ls hl => ?_)
  refine lv_iinc (v := 1) (lv' := [(11, .int 1), (10, .int 1), (9, .int 2), (8, .int 1), (7, .int 479), (6, .int 1), (0, .ref q1), (1, .int 1), (2, .int x2), (3, .int x3), (4, .int x4), (5, .int x5)]) hx hb dX10_setEnvelope_202 hl (k := 1) rfl (by decide) (by decide) rfl (fun ls hl => ?_)
  refine lv_goto (tgt := 157) hx hb dX10_setEnvelope_205 (by decide) ?_
  refine lv_iload hx hb dX10_setEnvelope_157 (lv_at hl 0 rfl) ?_
  refine lv_iconst (v := 4) hx hb dX10_setEnvelope_159 (by decide) ?_
  refine lv_icmp_ge (tgt := 208) hx hb dX10_setEnvelope_160 (by decide) (fun h => absurd h (by decide)) (fun _ => ?_)
  refine lv_iload hx hb dX10_setEnvelope_163 (lv_at hl 1 rfl) ?_
  refine lv_aload_n hx hb dX10_setEnvelope_165 rfl (lv_at hl 6 rfl) ?_
  refine gf_RX10_9 hx hb hown hE hP 3 rfl rfl dX10_setEnvelope_166 ?_
  refine lv_sipush (v := 474) hx hb dX10_setEnvelope_169 (by decide) ?_
  refine lv_iconst (v := 5) hx hb dX10_setEnvelope_172 (by decide) ?_
  refine lv_iload hx hb dX10_setEnvelope_173 (lv_at hl 2 rfl) ?_
  refine x_imul (v := 10) hx hb dX10_setEnvelope_175 (by decide) ?_
  refine x_iadd (v := 484) hx hb dX10_setEnvelope_176 (by decide) ?_
  refine lv_iload hx hb dX10_setEnvelope_177 (lv_at hl 0 rfl) ?_
  refine x_iadd (v := 485) hx hb dX10_setEnvelope_179 (by decide) ?_
  refine x_iald (v := 0) hx hb hE hP 0 rfl 485 (x_in (by decide)) (by decide) ((pk_un (by decide)).trans ((pk_un (by decide)).trans ((pk_un (by decide)).trans ((pk_un (by decide)).trans hf65)))) dX10_setEnvelope_180 ?_
  refine lv_aload_n hx hb dX10_setEnvelope_181 rfl (lv_at hl 6 rfl) ?_
  refine gf_RX10_9 hx hb hown hE hP 3 rfl rfl dX10_setEnvelope_182 ?_
  refine lv_iload hx hb dX10_setEnvelope_185 (lv_at hl 4 rfl) ?_
  refine lv_iload hx hb dX10_setEnvelope_187 (lv_at hl 0 rfl) ?_
  refine x_iadd (v := 480) hx hb dX10_setEnvelope_189 (by decide) ?_
  refine x_iald (v := x3) hx hb hE hP 0 rfl 480 (x_in (by decide)) (by decide) ((pk_un (by decide)).trans ((pk_un (by decide)).trans pk_us)) dX10_setEnvelope_190 ?_
  refine lv_icmp_ne (tgt := 198) hx hb dX10_setEnvelope_191 (by decide) (fun h => absurd h (i_nne h59)) (fun _ => ?_)
  refine lv_iconst (v := 1) hx hb dX10_setEnvelope_194 (by decide) ?_
  refine lv_goto (tgt := 199) hx hb dX10_setEnvelope_195 (by decide) ?_
  refine x_iand (v := 1) hx hb dX10_setEnvelope_199 (by decide) ?_
  refine lv_istore (lv' := [(10, .int 1), (11, .int 1), (9, .int 2), (8, .int 1), (7, .int 479), (6, .int 1), (0, .ref q1), (1, .int 1), (2, .int x2), (3, .int x3), (4, .int x4), (5, .int x5)]) hx hb dX10_setEnvelope_200 hl (by decide) rfl (fun ls hl => ?_)
  refine lv_iinc (v := 2) (lv' := [(11, .int 2), (10, .int 1), (9, .int 2), (8, .int 1), (7, .int 479), (6, .int 1), (0, .ref q1), (1, .int 1), (2, .int x2), (3, .int x3), (4, .int x4), (5, .int x5)]) hx hb dX10_setEnvelope_202 hl (k := 1) rfl (by decide) (by decide) rfl (fun ls hl => ?_)
  refine lv_goto (tgt := 157) hx hb dX10_setEnvelope_205 (by decide) ?_
  refine lv_iload hx hb dX10_setEnvelope_157 (lv_at hl 0 rfl) ?_
  refine lv_iconst (v := 4) hx hb dX10_setEnvelope_159 (by decide) ?_
  refine lv_icmp_ge (tgt := 208) hx hb dX10_setEnvelope_160 (by decide) (fun h => absurd h (by decide)) (fun _ => ?_)
  refine lv_iload hx hb dX10_setEnvelope_163 (lv_at hl 1 rfl) ?_
  refine lv_aload_n hx hb dX10_setEnvelope_165 rfl (lv_at hl 6 rfl) ?_
  refine gf_RX10_9 hx hb hown hE hP 3 rfl rfl dX10_setEnvelope_166 ?_
  refine lv_sipush (v := 474) hx hb dX10_setEnvelope_169 (by decide) ?_
  refine lv_iconst (v := 5) hx hb dX10_setEnvelope_172 (by decide) ?_
  refine lv_iload hx hb dX10_setEnvelope_173 (lv_at hl 2 rfl) ?_
  refine x_imul (v := 10) hx hb dX10_setEnvelope_175 (by decide) ?_
  refine x_iadd (v := 484) hx hb dX10_setEnvelope_176 (by decide) ?_
  refine lv_iload hx hb dX10_setEnvelope_177 (lv_at hl 0 rfl) ?_
  refine x_iadd (v := 486) hx hb dX10_setEnvelope_179 (by decide) ?_
  refine x_iald (v := 100) hx hb hE hP 0 rfl 486 (x_in (by decide)) (by decide) ((pk_un (by decide)).trans ((pk_un (by decide)).trans ((pk_un (by decide)).trans ((pk_un (by decide)).trans hf66)))) dX10_setEnvelope_180 ?_
  refine lv_aload_n hx hb dX10_setEnvelope_181 rfl (lv_at hl 6 rfl) ?_
  refine gf_RX10_9 hx hb hown hE hP 3 rfl rfl dX10_setEnvelope_182 ?_
  refine lv_iload hx hb dX10_setEnvelope_185 (lv_at hl 4 rfl) ?_
  refine lv_iload hx hb dX10_setEnvelope_187 (lv_at hl 0 rfl) ?_
  refine x_iadd (v := 481) hx hb dX10_setEnvelope_189 (by decide) ?_
  refine x_iald (v := x4) hx hb hE hP 0 rfl 481 (x_in (by decide)) (by decide) ((pk_un (by decide)).trans pk_us) dX10_setEnvelope_190 ?_
  refine lv_icmp_ne (tgt := 198) hx hb dX10_setEnvelope_191 (by decide) (fun h => absurd h (i_nne h61)) (fun _ => ?_)
  refine lv_iconst (v := 1) hx hb dX10_setEnvelope_194 (by decide) ?_
  refine lv_goto (tgt := 199) hx hb dX10_setEnvelope_195 (by decide) ?_
  refine x_iand (v := 1) hx hb dX10_setEnvelope_199 (by decide) ?_
  refine lv_istore (lv' := [(10, .int 1), (11, .int 2), (9, .int 2), (8, .int 1), (7, .int 479), (6, .int 1), (0, .ref q1), (1, .int 1), (2, .int x2), (3, .int x3), (4, .int x4), (5, .int x5)]) hx hb dX10_setEnvelope_200 hl (by decide) rfl (fun ls hl => ?_)
  refine lv_iinc (v := 3) (lv' := [(11, .int 3), (10, .int 1), (9, .int 2), (8, .int 1), (7, .int 479), (6, .int 1), (0, .ref q1), (1, .int 1), (2, .int x2), (3, .int x3), (4, .int x4), (5, .int x5)]) hx hb dX10_setEnvelope_202 hl (k := 1) rfl (by decide) (by decide) rfl (fun ls hl => ?_)
  refine lv_goto (tgt := 157) hx hb dX10_setEnvelope_205 (by decide) ?_
  refine lv_iload hx hb dX10_setEnvelope_157 (lv_at hl 0 rfl) ?_
  refine lv_iconst (v := 4) hx hb dX10_setEnvelope_159 (by decide) ?_
  refine lv_icmp_ge (tgt := 208) hx hb dX10_setEnvelope_160 (by decide) (fun h => absurd h (by decide)) (fun _ => ?_)
  refine lv_iload hx hb dX10_setEnvelope_163 (lv_at hl 1 rfl) ?_
  refine lv_aload_n hx hb dX10_setEnvelope_165 rfl (lv_at hl 6 rfl) ?_
  refine gf_RX10_9 hx hb hown hE hP 3 rfl rfl dX10_setEnvelope_166 ?_
  refine lv_sipush (v := 474) hx hb dX10_setEnvelope_169 (by decide) ?_
  refine lv_iconst (v := 5) hx hb dX10_setEnvelope_172 (by decide) ?_
  refine lv_iload hx hb dX10_setEnvelope_173 (lv_at hl 2 rfl) ?_
  refine x_imul (v := 10) hx hb dX10_setEnvelope_175 (by decide) ?_
  refine x_iadd (v := 484) hx hb dX10_setEnvelope_176 (by decide) ?_
  refine lv_iload hx hb dX10_setEnvelope_177 (lv_at hl 0 rfl) ?_
  refine x_iadd (v := 487) hx hb dX10_setEnvelope_179 (by decide) ?_
  refine x_iald (v := 0) hx hb hE hP 0 rfl 487 (x_in (by decide)) (by decide) ((pk_un (by decide)).trans ((pk_un (by decide)).trans ((pk_un (by decide)).trans ((pk_un (by decide)).trans hf67)))) dX10_setEnvelope_180 ?_
  refine lv_aload_n hx hb dX10_setEnvelope_181 rfl (lv_at hl 6 rfl) ?_
  refine gf_RX10_9 hx hb hown hE hP 3 rfl rfl dX10_setEnvelope_182 ?_
  refine lv_iload hx hb dX10_setEnvelope_185 (lv_at hl 4 rfl) ?_
  refine lv_iload hx hb dX10_setEnvelope_187 (lv_at hl 0 rfl) ?_
  refine x_iadd (v := 482) hx hb dX10_setEnvelope_189 (by decide) ?_
  refine x_iald (v := x5) hx hb hE hP 0 rfl 482 (x_in (by decide)) (by decide) pk_us dX10_setEnvelope_190 ?_
  refine lv_icmp_ne (tgt := 198) hx hb dX10_setEnvelope_191 (by decide) (fun _ => ?_) (fun h => absurd h h63)
  refine lv_iconst (v := 0) hx hb dX10_setEnvelope_198 (by decide) ?_
  refine x_iand (v := 0) hx hb dX10_setEnvelope_199 (by decide) ?_
  refine lv_istore (lv' := [(10, .int 0), (11, .int 3), (9, .int 2), (8, .int 1), (7, .int 479), (6, .int 1), (0, .ref q1), (1, .int 1), (2, .int x2), (3, .int x3), (4, .int x4), (5, .int x5)]) hx hb dX10_setEnvelope_200 hl (by decide) rfl (fun ls hl => ?_)
  refine lv_iinc (v := 4) (lv' := [(11, .int 4), (10, .int 0), (9, .int 2), (8, .int 1), (7, .int 479), (6, .int 1), (0, .ref q1), (1, .int 1), (2, .int x2), (3, .int x3), (4, .int x4), (5, .int x5)]) hx hb dX10_setEnvelope_202 hl (k := 1) rfl (by decide) (by decide) rfl (fun ls hl => ?_)
  refine lv_goto (tgt := 157) hx hb dX10_setEnvelope_205 (by decide) ?_
  refine lv_iload hx hb dX10_setEnvelope_157 (lv_at hl 0 rfl) ?_
  refine lv_iconst (v := 4) hx hb dX10_setEnvelope_159 (by decide) ?_
  refine lv_icmp_ge (tgt := 208) hx hb dX10_setEnvelope_160 (by decide) (fun _ => ?_) (fun h => absurd (by decide) h)
  refine lv_iload hx hb dX10_setEnvelope_208 (lv_at hl 3 rfl) ?_
  refine lv_iload hx hb dX10_setEnvelope_210 (lv_at hl 1 rfl) ?_
  refine lv_if_eq (tgt := 219) hx hb dX10_setEnvelope_212 (by decide) (fun _ => ?_) (fun h => absurd (by decide) h)
  refine lv_iconst (v := 0) hx hb dX10_setEnvelope_219 (by decide) ?_
  refine x_iadd (v := 1) hx hb dX10_setEnvelope_220 (by decide) ?_
  refine lv_istore (lv' := [(8, .int 1), (11, .int 4), (10, .int 0), (9, .int 2), (7, .int 479), (6, .int 1), (0, .ref q1), (1, .int 1), (2, .int x2), (3, .int x3), (4, .int x4), (5, .int x5)]) hx hb dX10_setEnvelope_221 hl (by decide) rfl (fun ls hl => ?_)
  refine lv_iinc (v := 3) (lv' := [(9, .int 3), (8, .int 1), (11, .int 4), (10, .int 0), (7, .int 479), (6, .int 1), (0, .ref q1), (1, .int 1), (2, .int x2), (3, .int x3), (4, .int x4), (5, .int x5)]) hx hb dX10_setEnvelope_223 hl (k := 3) rfl (by decide) (by decide) rfl (fun ls hl => ?_)
  refine lv_goto (tgt := 145) hx hb dX10_setEnvelope_226 (by decide) ?_
  refine lv_iload hx hb dX10_setEnvelope_145 (lv_at hl 0 rfl) ?_
  refine lv_iconst (v := 4) hx hb dX10_setEnvelope_147 (by decide) ?_
  refine lv_icmp_ge (tgt := 229) hx hb dX10_setEnvelope_148 (by decide) (fun h => absurd h (by decide)) (fun _ => ?_)
  refine lv_iconst (v := 1) hx hb dX10_setEnvelope_151 (by decide) ?_
  refine lv_istore (lv' := [(10, .int 1), (9, .int 3), (8, .int 1), (11, .int 4), (7, .int 479), (6, .int 1), (0, .ref q1), (1, .int 1), (2, .int x2), (3, .int x3), (4, .int x4), (5, .int x5)]) hx hb dX10_setEnvelope_152 hl (by decide) rfl (fun ls hl => ?_)
  refine lv_iconst (v := 0) hx hb dX10_setEnvelope_154 (by decide) ?_
  refine lv_istore (lv' := [(11, .int 0), (10, .int 1), (9, .int 3), (8, .int 1), (7, .int 479), (6, .int 1), (0, .ref q1), (1, .int 1), (2, .int x2), (3, .int x3), (4, .int x4), (5, .int x5)]) hx hb dX10_setEnvelope_155 hl (by decide) rfl (fun ls hl => ?_)
  refine lv_iload hx hb dX10_setEnvelope_157 (lv_at hl 0 rfl) ?_
  refine lv_iconst (v := 4) hx hb dX10_setEnvelope_159 (by decide) ?_
  refine lv_icmp_ge (tgt := 208) hx hb dX10_setEnvelope_160 (by decide) (fun h => absurd h (by decide)) (fun _ => ?_)
  refine lv_iload hx hb dX10_setEnvelope_163 (lv_at hl 1 rfl) ?_
  refine lv_aload_n hx hb dX10_setEnvelope_165 rfl (lv_at hl 6 rfl) ?_
  refine gf_RX10_9 hx hb hown hE hP 3 rfl rfl dX10_setEnvelope_166 ?_
  refine lv_sipush (v := 474) hx hb dX10_setEnvelope_169 (by decide) ?_
  refine lv_iconst (v := 5) hx hb dX10_setEnvelope_172 (by decide) ?_
  refine lv_iload hx hb dX10_setEnvelope_173 (lv_at hl 2 rfl) ?_
  refine x_imul (v := 15) hx hb dX10_setEnvelope_175 (by decide) ?_
  refine x_iadd (v := 489) hx hb dX10_setEnvelope_176 (by decide) ?_
  refine lv_iload hx hb dX10_setEnvelope_177 (lv_at hl 0 rfl) ?_
  refine x_iadd (v := 489) hx hb dX10_setEnvelope_179 (by decide) ?_
  refine x_iald (v := 0) hx hb hE hP 0 rfl 489 (x_in (by decide)) (by decide) ((pk_un (by decide)).trans ((pk_un (by decide)).trans ((pk_un (by decide)).trans ((pk_un (by decide)).trans hf68)))) dX10_setEnvelope_180 ?_
  refine lv_aload_n hx hb dX10_setEnvelope_181 rfl (lv_at hl 6 rfl) ?_
  refine gf_RX10_9 hx hb hown hE hP 3 rfl rfl dX10_setEnvelope_182 ?_
  refine lv_iload hx hb dX10_setEnvelope_185 (lv_at hl 4 rfl) ?_
  refine lv_iload hx hb dX10_setEnvelope_187 (lv_at hl 0 rfl) ?_
  refine x_iadd (v := 479) hx hb dX10_setEnvelope_189 (by decide) ?_
  refine x_iald (v := x2) hx hb hE hP 0 rfl 479 (x_in (by decide)) (by decide) ((pk_un (by decide)).trans ((pk_un (by decide)).trans ((pk_un (by decide)).trans pk_us))) dX10_setEnvelope_190 ?_
  refine lv_icmp_ne (tgt := 198) hx hb dX10_setEnvelope_191 (by decide) (fun h => absurd h (i_nne h57)) (fun _ => ?_)
  refine lv_iconst (v := 1) hx hb dX10_setEnvelope_194 (by decide) ?_
  refine lv_goto (tgt := 199) hx hb dX10_setEnvelope_195 (by decide) ?_
  refine x_iand (v := 1) hx hb dX10_setEnvelope_199 (by decide) ?_
  refine lv_istore (lv' := [(10, .int 1), (11, .int 0), (9, .int 3), (8, .int 1), (7, .int 479), (6, .int 1), (0, .ref q1), (1, .int 1), (2, .int x2), (3, .int x3), (4, .int x4), (5, .int x5)]) hx hb dX10_setEnvelope_200 hl (by decide) rfl (fun ls hl => ?_)
  refine lv_iinc (v := 1) (lv' := [(11, .int 1), (10, .int 1), (9, .int 3), (8, .int 1), (7, .int 479), (6, .int 1), (0, .ref q1), (1, .int 1), (2, .int x2), (3, .int x3), (4, .int x4), (5, .int x5)]) hx hb dX10_setEnvelope_202 hl (k := 1) rfl (by decide) (by decide) rfl (fun ls hl => ?_)
  refine lv_goto (tgt := 157) hx hb dX10_setEnvelope_205 (by decide) ?_
  refine lv_iload hx hb dX10_setEnvelope_157 (lv_at hl 0 rfl) ?_
  refine lv_iconst (v := 4) hx hb dX10_setEnvelope_159 (by decide) ?_
  refine lv_icmp_ge (tgt := 208) hx hb dX10_setEnvelope_160 (by decide) (fun h => absurd h (by decide)) (fun _ => ?_)
  refine lv_iload hx hb dX10_setEnvelope_163 (lv_at hl 1 rfl) ?_
  refine lv_aload_n hx hb dX10_setEnvelope_165 rfl (lv_at hl 6 rfl) ?_
  refine gf_RX10_9 hx hb hown hE hP 3 rfl rfl dX10_setEnvelope_166 ?_
  refine lv_sipush (v := 474) hx hb dX10_setEnvelope_169 (by decide) ?_
  refine lv_iconst (v := 5) hx hb dX10_setEnvelope_172 (by decide) ?_
  refine lv_iload hx hb dX10_setEnvelope_173 (lv_at hl 2 rfl) ?_
  refine x_imul (v := 15) hx hb dX10_setEnvelope_175 (by decide) ?_
  refine x_iadd (v := 489) hx hb dX10_setEnvelope_176 (by decide) ?_
  refine lv_iload hx hb dX10_setEnvelope_177 (lv_at hl 0 rfl) ?_
  refine x_iadd (v := 490) hx hb dX10_setEnvelope_179 (by decide) ?_
  refine x_iald (v := 0) hx hb hE hP 0 rfl 490 (x_in (by decide)) (by decide) ((pk_un (by decide)).trans ((pk_un (by decide)).trans ((pk_un (by decide)).trans ((pk_un (by decide)).trans hf69)))) dX10_setEnvelope_180 ?_
  refine lv_aload_n hx hb dX10_setEnvelope_181 rfl (lv_at hl 6 rfl) ?_
  refine gf_RX10_9 hx hb hown hE hP 3 rfl rfl dX10_setEnvelope_182 ?_
  refine lv_iload hx hb dX10_setEnvelope_185 (lv_at hl 4 rfl) ?_
  refine lv_iload hx hb dX10_setEnvelope_187 (lv_at hl 0 rfl) ?_
  refine x_iadd (v := 480) hx hb dX10_setEnvelope_189 (by decide) ?_
  refine x_iald (v := x3) hx hb hE hP 0 rfl 480 (x_in (by decide)) (by decide) ((pk_un (by decide)).trans ((pk_un (by decide)).trans pk_us)) dX10_setEnvelope_190 ?_
  refine lv_icmp_ne (tgt := 198) hx hb dX10_setEnvelope_191 (by decide) (fun h => absurd h (i_nne h59)) (fun _ => ?_)
  refine lv_iconst (v := 1) hx hb dX10_setEnvelope_194 (by decide) ?_
  refine lv_goto (tgt := 199) hx hb dX10_setEnvelope_195 (by decide) ?_
  refine x_iand (v := 1) hx hb dX10_setEnvelope_199 (by decide) ?_
  refine lv_istore (lv' := [(10, .int 1), (11, .int 1), (9, .int 3), (8, .int 1), (7, .int 479), (6, .int 1), (0, .ref q1), (1, .int 1), (2, .int x2), (3, .int x3), (4, .int x4), (5, .int x5)]) hx hb dX10_setEnvelope_200 hl (by decide) rfl (fun ls hl => ?_)
  refine lv_iinc (v := 2) (lv' := [(11, .int 2), (10, .int 1), (9, .int 3), (8, .int 1), (7, .int 479), (6, .int 1), (0, .ref q1), (1, .int 1), (2, .int x2), (3, .int x3), (4, .int x4), (5, .int x5)]) hx hb dX10_setEnvelope_202 hl (k := 1) rfl (by decide) (by decide) rfl (fun ls hl => ?_)
  refine lv_goto (tgt := 157) hx hb dX10_setEnvelope_205 (by decide) ?_
  refine lv_iload hx hb dX10_setEnvelope_157 (lv_at hl 0 rfl) ?_
  refine lv_iconst (v := 4) hx hb dX10_setEnvelope_159 (by decide) ?_
  refine lv_icmp_ge (tgt := 208) hx hb dX10_setEnvelope_160 (by decide) (fun h => absurd h (by decide)) (fun _ => ?_)
  refine lv_iload hx hb dX10_setEnvelope_163 (lv_at hl 1 rfl) ?_
  refine lv_aload_n hx hb dX10_setEnvelope_165 rfl (lv_at hl 6 rfl) ?_
  refine gf_RX10_9 hx hb hown hE hP 3 rfl rfl dX10_setEnvelope_166 ?_
  refine lv_sipush (v := 474) hx hb dX10_setEnvelope_169 (by decide) ?_
  refine lv_iconst (v := 5) hx hb dX10_setEnvelope_172 (by decide) ?_
  refine lv_iload hx hb dX10_setEnvelope_173 (lv_at hl 2 rfl) ?_
  refine x_imul (v := 15) hx hb dX10_setEnvelope_175 (by decide) ?_
  refine x_iadd (v := 489) hx hb dX10_setEnvelope_176 (by decide) ?_
  refine lv_iload hx hb dX10_setEnvelope_177 (lv_at hl 0 rfl) ?_
  refine x_iadd (v := 491) hx hb dX10_setEnvelope_179 (by decide) ?_
  refine x_iald (v := 100) hx hb hE hP 0 rfl 491 (x_in (by decide)) (by decide) ((pk_un (by decide)).trans ((pk_un (by decide)).trans ((pk_un (by decide)).trans ((pk_un (by decide)).trans hf70)))) dX10_setEnvelope_180 ?_
  refine lv_aload_n hx hb dX10_setEnvelope_181 rfl (lv_at hl 6 rfl) ?_
  refine gf_RX10_9 hx hb hown hE hP 3 rfl rfl dX10_setEnvelope_182 ?_
  refine lv_iload hx hb dX10_setEnvelope_185 (lv_at hl 4 rfl) ?_
  refine lv_iload hx hb dX10_setEnvelope_187 (lv_at hl 0 rfl) ?_
  refine x_iadd (v := 481) hx hb dX10_setEnvelope_189 (by decide) ?_
  refine x_iald (v := x4) hx hb hE hP 0 rfl 481 (x_in (by decide)) (by decide) ((pk_un (by decide)).trans pk_us) dX10_setEnvelope_190 ?_
  refine lv_icmp_ne (tgt := 198) hx hb dX10_setEnvelope_191 (by decide) (fun h => absurd h (i_nne h61)) (fun _ => ?_)
  refine lv_iconst (v := 1) hx hb dX10_setEnvelope_194 (by decide) ?_
  refine lv_goto (tgt := 199) hx hb dX10_setEnvelope_195 (by decide) ?_
  refine x_iand (v := 1) hx hb dX10_setEnvelope_199 (by decide) ?_
  refine lv_istore (lv' := [(10, .int 1), (11, .int 2), (9, .int 3), (8, .int 1), (7, .int 479), (6, .int 1), (0, .ref q1), (1, .int 1), (2, .int x2), (3, .int x3), (4, .int x4), (5, .int x5)]) hx hb dX10_setEnvelope_200 hl (by decide) rfl (fun ls hl => ?_)
  refine lv_iinc (v := 3) (lv' := [(11, .int 3), (10, .int 1), (9, .int 3), (8, .int 1), (7, .int 479), (6, .int 1), (0, .ref q1), (1, .int 1), (2, .int x2), (3, .int x3), (4, .int x4), (5, .int x5)]) hx hb dX10_setEnvelope_202 hl (k := 1) rfl (by decide) (by decide) rfl (fun ls hl => ?_)
  refine lv_goto (tgt := 157) hx hb dX10_setEnvelope_205 (by decide) ?_
  refine lv_iload hx hb dX10_setEnvelope_157 (lv_at hl 0 rfl) ?_
  refine lv_iconst (v := 4) hx hb dX10_setEnvelope_159 (by decide) ?_
  refine lv_icmp_ge (tgt := 208) hx hb dX10_setEnvelope_160 (by decide) (fun h => absurd h (by decide)) (fun _ => ?_)
  refine lv_iload hx hb dX10_setEnvelope_163 (lv_at hl 1 rfl) ?_
  refine lv_aload_n hx hb dX10_setEnvelope_165 rfl (lv_at hl 6 rfl) ?_
  refine gf_RX10_9 hx hb hown hE hP 3 rfl rfl dX10_setEnvelope_166 ?_
  refine lv_sipush (v := 474) hx hb dX10_setEnvelope_169 (by decide) ?_
  refine lv_iconst (v := 5) hx hb dX10_setEnvelope_172 (by decide) ?_
  refine lv_iload hx hb dX10_setEnvelope_173 (lv_at hl 2 rfl) ?_
  refine x_imul (v := 15) hx hb dX10_setEnvelope_175 (by decide) ?_
  refine x_iadd (v := 489) hx hb dX10_setEnvelope_176 (by decide) ?_
  refine lv_iload hx hb dX10_setEnvelope_177 (lv_at hl 0 rfl) ?_
  refine x_iadd (v := 492) hx hb dX10_setEnvelope_179 (by decide) ?_
  refine x_iald (v := 0) hx hb hE hP 0 rfl 492 (x_in (by decide)) (by decide) ((pk_un (by decide)).trans ((pk_un (by decide)).trans ((pk_un (by decide)).trans ((pk_un (by decide)).trans hf71)))) dX10_setEnvelope_180 ?_
  refine lv_aload_n hx hb dX10_setEnvelope_181 rfl (lv_at hl 6 rfl) ?_
  refine gf_RX10_9 hx hb hown hE hP 3 rfl rfl dX10_setEnvelope_182 ?_
  refine lv_iload hx hb dX10_setEnvelope_185 (lv_at hl 4 rfl) ?_
  refine lv_iload hx hb dX10_setEnvelope_187 (lv_at hl 0 rfl) ?_
  refine x_iadd (v := 482) hx hb dX10_setEnvelope_189 (by decide) ?_
  refine x_iald (v := x5) hx hb hE hP 0 rfl 482 (x_in (by decide)) (by decide) pk_us dX10_setEnvelope_190 ?_
  refine lv_icmp_ne (tgt := 198) hx hb dX10_setEnvelope_191 (by decide) (fun _ => ?_) (fun h => absurd h h63)
  refine lv_iconst (v := 0) hx hb dX10_setEnvelope_198 (by decide) ?_
  refine x_iand (v := 0) hx hb dX10_setEnvelope_199 (by decide) ?_
  refine lv_istore (lv' := [(10, .int 0), (11, .int 3), (9, .int 3), (8, .int 1), (7, .int 479), (6, .int 1), (0, .ref q1), (1, .int 1), (2, .int x2), (3, .int x3), (4, .int x4), (5, .int x5)]) hx hb dX10_setEnvelope_200 hl (by decide) rfl (fun ls hl => ?_)
  refine lv_iinc (v := 4) (lv' := [(11, .int 4), (10, .int 0), (9, .int 3), (8, .int 1), (7, .int 479), (6, .int 1), (0, .ref q1), (1, .int 1), (2, .int x2), (3, .int x3), (4, .int x4), (5, .int x5)]) hx hb dX10_setEnvelope_202 hl (k := 1) rfl (by decide) (by decide) rfl (fun ls hl => ?_)
  refine lv_goto (tgt := 157) hx hb dX10_setEnvelope_205 (by decide) ?_
  refine lv_iload hx hb dX10_setEnvelope_157 (lv_at hl 0 rfl) ?_
  refine lv_iconst (v := 4) hx hb dX10_setEnvelope_159 (by decide) ?_
  refine lv_icmp_ge (tgt := 208) hx hb dX10_setEnvelope_160 (by decide) (fun _ => ?_) (fun h => absurd (by decide) h)
  refine lv_iload hx hb dX10_setEnvelope_208 (lv_at hl 3 rfl) ?_
  refine lv_iload hx hb dX10_setEnvelope_210 (lv_at hl 1 rfl) ?_
  refine lv_if_eq (tgt := 219) hx hb dX10_setEnvelope_212 (by decide) (fun _ => ?_) (fun h => absurd (by decide) h)
  refine lv_iconst (v := 0) hx hb dX10_setEnvelope_219 (by decide) ?_
  refine x_iadd (v := 1) hx hb dX10_setEnvelope_220 (by decide) ?_
  refine lv_istore (lv' := [(8, .int 1), (11, .int 4), (10, .int 0), (9, .int 3), (7, .int 479), (6, .int 1), (0, .ref q1), (1, .int 1), (2, .int x2), (3, .int x3), (4, .int x4), (5, .int x5)]) hx hb dX10_setEnvelope_221 hl (by decide) rfl (fun ls hl => ?_)
  refine lv_iinc (v := 4) (lv' := [(9, .int 4), (8, .int 1), (11, .int 4), (10, .int 0), (7, .int 479), (6, .int 1), (0, .ref q1), (1, .int 1), (2, .int x2), (3, .int x3), (4, .int x4), (5, .int x5)]) hx hb dX10_setEnvelope_223 hl (k := 3) rfl (by decide) (by decide) rfl (fun ls hl => ?_)
  refine lv_goto (tgt := 145) hx hb dX10_setEnvelope_226 (by decide) ?_
  refine lv_iload hx hb dX10_setEnvelope_145 (lv_at hl 0 rfl) ?_
  refine lv_iconst (v := 4) hx hb dX10_setEnvelope_147 (by decide) ?_
  refine lv_icmp_ge (tgt := 229) hx hb dX10_setEnvelope_148 (by decide) (fun _ => ?_) (fun h => absurd (by decide) h)
  refine lv_iload hx hb dX10_setEnvelope_229 (lv_at hl 1 rfl) ?_
  exact x_zret hx hb hr rfl rfl hlocks hP hD hS hAe hsz (Nat.le_of_ble_eq_true rfl) (Nat.le_of_ble_eq_true rfl) (fun _ => 0) [3] (by decide) rfl dX10_setEnvelope_231

set_option maxHeartbeats 4000000 in
set_option maxRecDepth 100000 in
theorem c1959_X6_hasSameEnvelope (l : Launch) (g : gG) (q1 q9 : Nat) (x12 x16 x20 : Int32) (w2 w3 w4 w6 w7 w8 : Value) (f10 : Nat → Int32) (hf11 : f10 5 = x12) (hf13 : f10 0 = 0) (hf15 : f10 6 = x16) (hf17 : f10 1 = 0) (hf19 : f10 7 = x20) (hf21 : f10 2 = 100) (h14 : x12 = 0) (h18 : x16 = 0) (h22 : ¬ x20 = 100) (sz : Nat) : Met l yX6_hasSameEnvelope [Cond.code yX6_hasSameEnvelope cX6_hasSameEnvelope 4 (some .boolean)] ({ frames := 1, cells := 0, slots := 0, locals := 23 } : Room) (va_Pc [.ref q1, .int 1, .int 0] (PX g sz [(q9, .inl (g.2 0, 20, .inl f10)), (q1, .inr (8, [w2, w3, w4, .ref q9, w6, w7, w8]))])) (QI g [(q9, .inl (g.2 0, 20, .inl f10)), (q1, .inr (8, [w2, w3, w4, .ref q9, w6, w7, w8]))] sz 0 (fun _ => [(q9, .inl (g.2 0, 20, .inl f10)), (q1, .inr (8, [w2, w3, w4, .ref q9, w6, w7, w8]))])) 0 0 (va_A [(q9, .inl (g.2 0, 20, .inl f10)), (q1, .inr (8, [w2, w3, w4, .ref q9, w6, w7, w8]))] sz) := by
  refine ofN (by decide) (Nat.le_of_ble_eq_true rfl) rfl ?_
  intro p e s m args below meth c A ls hAe hsz hx hb hml hr hlocks hin hown hE hP hD hA hS hl
  have hown : s.vm.findClass RX6 = some m.cls := hown
  refine lv_iconst (v := 0) hx hb dX6_hasSameEnvelope_0 (by decide) ?_
  refine lv_istore_n (lv' := [(3, .int 0), (0, .ref q1), (1, .int 1), (2, .int 0)]) hx hb dX6_hasSameEnvelope_1 rfl hl (by decide) rfl (fun ls hl => ?_)
  refine lv_iload_n hx hb dX6_hasSameEnvelope_2 rfl (lv_at hl 0 rfl) ?_
  refine lv_iconst (v := 3) hx hb dX6_hasSameEnvelope_3 (by decide) ?_
  refine lv_icmp_gt (tgt := 30) hx hb dX6_hasSameEnvelope_4 (by decide) (fun h => absurd h (by decide)) (fun _ => ?_)
  refine lv_aload_n hx hb dX6_hasSameEnvelope_7 rfl (lv_at hl 1 rfl) ?_
  refine lv_iload_n hx hb dX6_hasSameEnvelope_8 rfl (lv_at hl 2 rfl) ?_
  refine lv_iload_n hx hb dX6_hasSameEnvelope_9 rfl (lv_at hl 0 rfl) ?_
  refine g_i (wr := []) (rV (rest := []) hx hb hml hown hE hP hD 1 rfl rfl (c1940_X6_instrumentNumber l g q1 q9 x12 w2 w3 w4 w6 w7 w8 f10 (hf11) s.heap.size) (kV_X6_instrumentNumber hE (e462 hE) rfl rfl ⟨(Nat.le_of_ble_eq_true rfl), (Nat.le_of_ble_eq_true rfl)⟩) [0, 1] rfl (by decide) rfl hl.1 rfl (lv_room (Nat.le_of_ble_eq_true rfl)) dX6_hasSameEnvelope_10 ⟨(Nat.le_of_ble_eq_true rfl), (Nat.le_of_ble_eq_true rfl)⟩) hP hD hS hA [0, 1] [] rfl rfl (by decide) (by decide) (fun u1 H locs hP hD hS => ?_)
  have hP : va_P g.1 vwCl [(q9, .inl (g.2 0, 20, .inl f10)), (q1, .inr (8, [w2, w3, w4, .ref q9, w6, w7, w8]))] H := hP
  have hD : va_D A [(q9, .inl (g.2 0, 20, .inl f10)), (q1, .inr (8, [w2, w3, w4, .ref q9, w6, w7, w8]))] := hD
  refine lv_aload_n hx hb dX6_hasSameEnvelope_13 rfl (lv_at hl 1 rfl) ?_
  refine lv_iload_n hx hb dX6_hasSameEnvelope_14 rfl (lv_at hl 3 rfl) ?_
  refine lv_iload_n hx hb dX6_hasSameEnvelope_15 rfl (lv_at hl 0 rfl) ?_
  refine g_i (wr := []) (rV (rest := [.int x12]) hx hb hml hown hE hP hD 1 rfl rfl (c1879_X6_instrumentNumber l g q1 q9 0 w2 w3 w4 w6 w7 w8 f10 (hf13) H.size) (kV_X6_instrumentNumber hE (e462 hE) rfl rfl ⟨(Nat.le_of_ble_eq_true rfl), (Nat.le_of_ble_eq_true rfl)⟩) [0, 1] rfl (by decide) rfl hl.1 rfl (lv_room (Nat.le_of_ble_eq_true rfl)) dX6_hasSameEnvelope_16 ⟨(Nat.le_of_ble_eq_true rfl), (Nat.le_of_ble_eq_true rfl)⟩) hP hD hS hA [0, 1] [] rfl rfl (by decide) (by decide) (fun u2 H locs hP hD hS => ?_)
  have hP : va_P g.1 vwCl [(q9, .inl (g.2 0, 20, .inl f10)), (q1, .inr (8, [w2, w3, w4, .ref q9, w6, w7, w8]))] H := hP
  have hD : va_D A [(q9, .inl (g.2 0, 20, .inl f10)), (q1, .inr (8, [w2, w3, w4, .ref q9, w6, w7, w8]))] := hD
  refine lv_icmp_eq (tgt := 24) hx hb dX6_hasSameEnvelope_19 (by decide) (fun _ => ?_) (fun h => absurd h14 h)
  refine lv_iinc (v := 1) (lv' := [(3, .int 1), (0, .ref q1), (1, .int 1), (2, .int 0)]) hx hb dX6_hasSameEnvelope_24 hl (k := 0) rfl (by decide) (by decide) rfl (fun ls hl => ?_)
  refine lv_goto (tgt := 2) hx hb dX6_hasSameEnvelope_27 (by decide) ?_
  refine lv_iload_n hx hb dX6_hasSameEnvelope_2 rfl (lv_at hl 0 rfl) ?_
  refine lv_iconst (v := 3) hx hb dX6_hasSameEnvelope_3 (by decide) ?_
  refine lv_icmp_gt (tgt := 30) hx hb dX6_hasSameEnvelope_4 (by decide) (fun h => absurd h (by decide)) (fun _ => ?_)
  refine lv_aload_n hx hb dX6_hasSameEnvelope_7 rfl (lv_at hl 1 rfl) ?_
  refine lv_iload_n hx hb dX6_hasSameEnvelope_8 rfl (lv_at hl 2 rfl) ?_
  refine lv_iload_n hx hb dX6_hasSameEnvelope_9 rfl (lv_at hl 0 rfl) ?_
  refine g_i (wr := []) (rV (rest := []) hx hb hml hown hE hP hD 1 rfl rfl (c1941_X6_instrumentNumber l g q1 q9 x16 w2 w3 w4 w6 w7 w8 f10 (hf15) H.size) (kV_X6_instrumentNumber hE (e462 hE) rfl rfl ⟨(Nat.le_of_ble_eq_true rfl), (Nat.le_of_ble_eq_true rfl)⟩) [0, 1] rfl (by decide) rfl hl.1 rfl (lv_room (Nat.le_of_ble_eq_true rfl)) dX6_hasSameEnvelope_10 ⟨(Nat.le_of_ble_eq_true rfl), (Nat.le_of_ble_eq_true rfl)⟩) hP hD hS hA [0, 1] [] rfl rfl (by decide) (by decide) (fun u3 H locs hP hD hS => ?_)
  have hP : va_P g.1 vwCl [(q9, .inl (g.2 0, 20, .inl f10)), (q1, .inr (8, [w2, w3, w4, .ref q9, w6, w7, w8]))] H := hP
  have hD : va_D A [(q9, .inl (g.2 0, 20, .inl f10)), (q1, .inr (8, [w2, w3, w4, .ref q9, w6, w7, w8]))] := hD
  refine lv_aload_n hx hb dX6_hasSameEnvelope_13 rfl (lv_at hl 1 rfl) ?_
  refine lv_iload_n hx hb dX6_hasSameEnvelope_14 rfl (lv_at hl 3 rfl) ?_
  refine lv_iload_n hx hb dX6_hasSameEnvelope_15 rfl (lv_at hl 0 rfl) ?_
  refine g_i (wr := []) (rV (rest := [.int x16]) hx hb hml hown hE hP hD 1 rfl rfl (c1880_X6_instrumentNumber l g q1 q9 0 w2 w3 w4 w6 w7 w8 f10 (hf17) H.size) (kV_X6_instrumentNumber hE (e462 hE) rfl rfl ⟨(Nat.le_of_ble_eq_true rfl), (Nat.le_of_ble_eq_true rfl)⟩) [0, 1] rfl (by decide) rfl hl.1 rfl (lv_room (Nat.le_of_ble_eq_true rfl)) dX6_hasSameEnvelope_16 ⟨(Nat.le_of_ble_eq_true rfl), (Nat.le_of_ble_eq_true rfl)⟩) hP hD hS hA [0, 1] [] rfl rfl (by decide) (by decide) (fun u4 H locs hP hD hS => ?_)
  have hP : va_P g.1 vwCl [(q9, .inl (g.2 0, 20, .inl f10)), (q1, .inr (8, [w2, w3, w4, .ref q9, w6, w7, w8]))] H := hP
  have hD : va_D A [(q9, .inl (g.2 0, 20, .inl f10)), (q1, .inr (8, [w2, w3, w4, .ref q9, w6, w7, w8]))] := hD
  refine lv_icmp_eq (tgt := 24) hx hb dX6_hasSameEnvelope_19 (by decide) (fun _ => ?_) (fun h => absurd h18 h)
  refine lv_iinc (v := 2) (lv' := [(3, .int 2), (0, .ref q1), (1, .int 1), (2, .int 0)]) hx hb dX6_hasSameEnvelope_24 hl (k := 0) rfl (by decide) (by decide) rfl (fun ls hl => ?_)
  refine lv_goto (tgt := 2) hx hb dX6_hasSameEnvelope_27 (by decide) ?_
  refine lv_iload_n hx hb dX6_hasSameEnvelope_2 rfl (lv_at hl 0 rfl) ?_
  refine lv_iconst (v := 3) hx hb dX6_hasSameEnvelope_3 (by decide) ?_
  refine lv_icmp_gt (tgt := 30) hx hb dX6_hasSameEnvelope_4 (by decide) (fun h => absurd h (by decide)) (fun _ => ?_)
  refine lv_aload_n hx hb dX6_hasSameEnvelope_7 rfl (lv_at hl 1 rfl) ?_
  refine lv_iload_n hx hb dX6_hasSameEnvelope_8 rfl (lv_at hl 2 rfl) ?_
  refine lv_iload_n hx hb dX6_hasSameEnvelope_9 rfl (lv_at hl 0 rfl) ?_
  refine g_i (wr := []) (rV (rest := []) hx hb hml hown hE hP hD 1 rfl rfl (c1942_X6_instrumentNumber l g q1 q9 x20 w2 w3 w4 w6 w7 w8 f10 (hf19) H.size) (kV_X6_instrumentNumber hE (e462 hE) rfl rfl ⟨(Nat.le_of_ble_eq_true rfl), (Nat.le_of_ble_eq_true rfl)⟩) [0, 1] rfl (by decide) rfl hl.1 rfl (lv_room (Nat.le_of_ble_eq_true rfl)) dX6_hasSameEnvelope_10 ⟨(Nat.le_of_ble_eq_true rfl), (Nat.le_of_ble_eq_true rfl)⟩) hP hD hS hA [0, 1] [] rfl rfl (by decide) (by decide) (fun u5 H locs hP hD hS => ?_)
  have hP : va_P g.1 vwCl [(q9, .inl (g.2 0, 20, .inl f10)), (q1, .inr (8, [w2, w3, w4, .ref q9, w6, w7, w8]))] H := hP
  have hD : va_D A [(q9, .inl (g.2 0, 20, .inl f10)), (q1, .inr (8, [w2, w3, w4, .ref q9, w6, w7, w8]))] := hD
  refine lv_aload_n hx hb dX6_hasSameEnvelope_13 rfl (lv_at hl 1 rfl) ?_
  refine lv_iload_n hx hb dX6_hasSameEnvelope_14 rfl (lv_at hl 3 rfl) ?_
  refine lv_iload_n hx hb dX6_hasSameEnvelope_15 rfl (lv_at hl 0 rfl) ?_
  refine g_i (wr := []) (rV (rest := [.int x20]) hx hb hml hown hE hP hD 1 rfl rfl (c1881_X6_instrumentNumber l g q1 q9 100 w2 w3 w4 w6 w7 w8 f10 (hf21) H.size) (kV_X6_instrumentNumber hE (e462 hE) rfl rfl ⟨(Nat.le_of_ble_eq_true rfl), (Nat.le_of_ble_eq_true rfl)⟩) [0, 1] rfl (by decide) rfl hl.1 rfl (lv_room (Nat.le_of_ble_eq_true rfl)) dX6_hasSameEnvelope_16 ⟨(Nat.le_of_ble_eq_true rfl), (Nat.le_of_ble_eq_true rfl)⟩) hP hD hS hA [0, 1] [] rfl rfl (by decide) (by decide) (fun u6 H locs hP hD hS => ?_)
  have hP : va_P g.1 vwCl [(q9, .inl (g.2 0, 20, .inl f10)), (q1, .inr (8, [w2, w3, w4, .ref q9, w6, w7, w8]))] H := hP
  have hD : va_D A [(q9, .inl (g.2 0, 20, .inl f10)), (q1, .inr (8, [w2, w3, w4, .ref q9, w6, w7, w8]))] := hD
  refine lv_icmp_eq (tgt := 24) hx hb dX6_hasSameEnvelope_19 (by decide) (fun h => absurd h h22) (fun _ => ?_)
  refine lv_iconst (v := 0) hx hb dX6_hasSameEnvelope_22 (by decide) ?_
  exact x_zret hx hb hr rfl rfl hlocks hP hD hS hAe hsz (Nat.le_of_ble_eq_true rfl) (Nat.le_of_ble_eq_true rfl) (fun _ => 0) [0, 1] (by decide) rfl dX6_hasSameEnvelope_23

set_option maxHeartbeats 4000000 in
set_option maxRecDepth 100000 in
theorem c1960_X6_hasSameEnvelope (l : Launch) (g : gG) (q1 q9 : Nat) (x12 x16 x20 : Int32) (w2 w3 w4 w6 w7 w8 : Value) (f10 : Nat → Int32) (hf11 : f10 5 = x12) (hf13 : f10 10 = 0) (hf15 : f10 6 = x16) (hf17 : f10 11 = 0) (hf19 : f10 7 = x20) (hf21 : f10 12 = 100) (h14 : x12 = 0) (h18 : x16 = 0) (h22 : ¬ x20 = 100) (sz : Nat) : Met l yX6_hasSameEnvelope [Cond.code yX6_hasSameEnvelope cX6_hasSameEnvelope 4 (some .boolean)] ({ frames := 1, cells := 0, slots := 0, locals := 23 } : Room) (va_Pc [.ref q1, .int 1, .int 2] (PX g sz [(q9, .inl (g.2 0, 20, .inl f10)), (q1, .inr (8, [w2, w3, w4, .ref q9, w6, w7, w8]))])) (QI g [(q9, .inl (g.2 0, 20, .inl f10)), (q1, .inr (8, [w2, w3, w4, .ref q9, w6, w7, w8]))] sz 0 (fun _ => [(q9, .inl (g.2 0, 20, .inl f10)), (q1, .inr (8, [w2, w3, w4, .ref q9, w6, w7, w8]))])) 0 0 (va_A [(q9, .inl (g.2 0, 20, .inl f10)), (q1, .inr (8, [w2, w3, w4, .ref q9, w6, w7, w8]))] sz) := by
  refine ofN (by decide) (Nat.le_of_ble_eq_true rfl) rfl ?_
  intro p e s m args below meth c A ls hAe hsz hx hb hml hr hlocks hin hown hE hP hD hA hS hl
  have hown : s.vm.findClass RX6 = some m.cls := hown
  refine lv_iconst (v := 0) hx hb dX6_hasSameEnvelope_0 (by decide) ?_
  refine lv_istore_n (lv' := [(3, .int 0), (0, .ref q1), (1, .int 1), (2, .int 2)]) hx hb dX6_hasSameEnvelope_1 rfl hl (by decide) rfl (fun ls hl => ?_)
  refine lv_iload_n hx hb dX6_hasSameEnvelope_2 rfl (lv_at hl 0 rfl) ?_
  refine lv_iconst (v := 3) hx hb dX6_hasSameEnvelope_3 (by decide) ?_
  refine lv_icmp_gt (tgt := 30) hx hb dX6_hasSameEnvelope_4 (by decide) (fun h => absurd h (by decide)) (fun _ => ?_)
  refine lv_aload_n hx hb dX6_hasSameEnvelope_7 rfl (lv_at hl 1 rfl) ?_
  refine lv_iload_n hx hb dX6_hasSameEnvelope_8 rfl (lv_at hl 2 rfl) ?_
  refine lv_iload_n hx hb dX6_hasSameEnvelope_9 rfl (lv_at hl 0 rfl) ?_
  refine g_i (wr := []) (rV (rest := []) hx hb hml hown hE hP hD 1 rfl rfl (c1940_X6_instrumentNumber l g q1 q9 x12 w2 w3 w4 w6 w7 w8 f10 (hf11) s.heap.size) (kV_X6_instrumentNumber hE (e462 hE) rfl rfl ⟨(Nat.le_of_ble_eq_true rfl), (Nat.le_of_ble_eq_true rfl)⟩) [0, 1] rfl (by decide) rfl hl.1 rfl (lv_room (Nat.le_of_ble_eq_true rfl)) dX6_hasSameEnvelope_10 ⟨(Nat.le_of_ble_eq_true rfl), (Nat.le_of_ble_eq_true rfl)⟩) hP hD hS hA [0, 1] [] rfl rfl (by decide) (by decide) (fun u1 H locs hP hD hS => ?_)
  have hP : va_P g.1 vwCl [(q9, .inl (g.2 0, 20, .inl f10)), (q1, .inr (8, [w2, w3, w4, .ref q9, w6, w7, w8]))] H := hP
  have hD : va_D A [(q9, .inl (g.2 0, 20, .inl f10)), (q1, .inr (8, [w2, w3, w4, .ref q9, w6, w7, w8]))] := hD
  refine lv_aload_n hx hb dX6_hasSameEnvelope_13 rfl (lv_at hl 1 rfl) ?_
  refine lv_iload_n hx hb dX6_hasSameEnvelope_14 rfl (lv_at hl 3 rfl) ?_
  refine lv_iload_n hx hb dX6_hasSameEnvelope_15 rfl (lv_at hl 0 rfl) ?_
  refine g_i (wr := []) (rV (rest := [.int x12]) hx hb hml hown hE hP hD 1 rfl rfl (c1889_X6_instrumentNumber l g q1 q9 w2 w3 w4 w6 w7 w8 f10 (hf13) H.size) (kV_X6_instrumentNumber hE (e462 hE) rfl rfl ⟨(Nat.le_of_ble_eq_true rfl), (Nat.le_of_ble_eq_true rfl)⟩) [0, 1] rfl (by decide) rfl hl.1 rfl (lv_room (Nat.le_of_ble_eq_true rfl)) dX6_hasSameEnvelope_16 ⟨(Nat.le_of_ble_eq_true rfl), (Nat.le_of_ble_eq_true rfl)⟩) hP hD hS hA [0, 1] [] rfl rfl (by decide) (by decide) (fun u2 H locs hP hD hS => ?_)
  have hP : va_P g.1 vwCl [(q9, .inl (g.2 0, 20, .inl f10)), (q1, .inr (8, [w2, w3, w4, .ref q9, w6, w7, w8]))] H := hP
  have hD : va_D A [(q9, .inl (g.2 0, 20, .inl f10)), (q1, .inr (8, [w2, w3, w4, .ref q9, w6, w7, w8]))] := hD
  refine lv_icmp_eq (tgt := 24) hx hb dX6_hasSameEnvelope_19 (by decide) (fun _ => ?_) (fun h => absurd h14 h)
  refine lv_iinc (v := 1) (lv' := [(3, .int 1), (0, .ref q1), (1, .int 1), (2, .int 2)]) hx hb dX6_hasSameEnvelope_24 hl (k := 0) rfl (by decide) (by decide) rfl (fun ls hl => ?_)
  refine lv_goto (tgt := 2) hx hb dX6_hasSameEnvelope_27 (by decide) ?_
  refine lv_iload_n hx hb dX6_hasSameEnvelope_2 rfl (lv_at hl 0 rfl) ?_
  refine lv_iconst (v := 3) hx hb dX6_hasSameEnvelope_3 (by decide) ?_
  refine lv_icmp_gt (tgt := 30) hx hb dX6_hasSameEnvelope_4 (by decide) (fun h => absurd h (by decide)) (fun _ => ?_)
  refine lv_aload_n hx hb dX6_hasSameEnvelope_7 rfl (lv_at hl 1 rfl) ?_
  refine lv_iload_n hx hb dX6_hasSameEnvelope_8 rfl (lv_at hl 2 rfl) ?_
  refine lv_iload_n hx hb dX6_hasSameEnvelope_9 rfl (lv_at hl 0 rfl) ?_
  refine g_i (wr := []) (rV (rest := []) hx hb hml hown hE hP hD 1 rfl rfl (c1941_X6_instrumentNumber l g q1 q9 x16 w2 w3 w4 w6 w7 w8 f10 (hf15) H.size) (kV_X6_instrumentNumber hE (e462 hE) rfl rfl ⟨(Nat.le_of_ble_eq_true rfl), (Nat.le_of_ble_eq_true rfl)⟩) [0, 1] rfl (by decide) rfl hl.1 rfl (lv_room (Nat.le_of_ble_eq_true rfl)) dX6_hasSameEnvelope_10 ⟨(Nat.le_of_ble_eq_true rfl), (Nat.le_of_ble_eq_true rfl)⟩) hP hD hS hA [0, 1] [] rfl rfl (by decide) (by decide) (fun u3 H locs hP hD hS => ?_)
  have hP : va_P g.1 vwCl [(q9, .inl (g.2 0, 20, .inl f10)), (q1, .inr (8, [w2, w3, w4, .ref q9, w6, w7, w8]))] H := hP
  have hD : va_D A [(q9, .inl (g.2 0, 20, .inl f10)), (q1, .inr (8, [w2, w3, w4, .ref q9, w6, w7, w8]))] := hD
  refine lv_aload_n hx hb dX6_hasSameEnvelope_13 rfl (lv_at hl 1 rfl) ?_
  refine lv_iload_n hx hb dX6_hasSameEnvelope_14 rfl (lv_at hl 3 rfl) ?_
  refine lv_iload_n hx hb dX6_hasSameEnvelope_15 rfl (lv_at hl 0 rfl) ?_
  refine g_i (wr := []) (rV (rest := [.int x16]) hx hb hml hown hE hP hD 1 rfl rfl (c1890_X6_instrumentNumber l g q1 q9 w2 w3 w4 w6 w7 w8 f10 (hf17) H.size) (kV_X6_instrumentNumber hE (e462 hE) rfl rfl ⟨(Nat.le_of_ble_eq_true rfl), (Nat.le_of_ble_eq_true rfl)⟩) [0, 1] rfl (by decide) rfl hl.1 rfl (lv_room (Nat.le_of_ble_eq_true rfl)) dX6_hasSameEnvelope_16 ⟨(Nat.le_of_ble_eq_true rfl), (Nat.le_of_ble_eq_true rfl)⟩) hP hD hS hA [0, 1] [] rfl rfl (by decide) (by decide) (fun u4 H locs hP hD hS => ?_)
  have hP : va_P g.1 vwCl [(q9, .inl (g.2 0, 20, .inl f10)), (q1, .inr (8, [w2, w3, w4, .ref q9, w6, w7, w8]))] H := hP
  have hD : va_D A [(q9, .inl (g.2 0, 20, .inl f10)), (q1, .inr (8, [w2, w3, w4, .ref q9, w6, w7, w8]))] := hD
  refine lv_icmp_eq (tgt := 24) hx hb dX6_hasSameEnvelope_19 (by decide) (fun _ => ?_) (fun h => absurd h18 h)
  refine lv_iinc (v := 2) (lv' := [(3, .int 2), (0, .ref q1), (1, .int 1), (2, .int 2)]) hx hb dX6_hasSameEnvelope_24 hl (k := 0) rfl (by decide) (by decide) rfl (fun ls hl => ?_)
  refine lv_goto (tgt := 2) hx hb dX6_hasSameEnvelope_27 (by decide) ?_
  refine lv_iload_n hx hb dX6_hasSameEnvelope_2 rfl (lv_at hl 0 rfl) ?_
  refine lv_iconst (v := 3) hx hb dX6_hasSameEnvelope_3 (by decide) ?_
  refine lv_icmp_gt (tgt := 30) hx hb dX6_hasSameEnvelope_4 (by decide) (fun h => absurd h (by decide)) (fun _ => ?_)
  refine lv_aload_n hx hb dX6_hasSameEnvelope_7 rfl (lv_at hl 1 rfl) ?_
  refine lv_iload_n hx hb dX6_hasSameEnvelope_8 rfl (lv_at hl 2 rfl) ?_
  refine lv_iload_n hx hb dX6_hasSameEnvelope_9 rfl (lv_at hl 0 rfl) ?_
  refine g_i (wr := []) (rV (rest := []) hx hb hml hown hE hP hD 1 rfl rfl (c1942_X6_instrumentNumber l g q1 q9 x20 w2 w3 w4 w6 w7 w8 f10 (hf19) H.size) (kV_X6_instrumentNumber hE (e462 hE) rfl rfl ⟨(Nat.le_of_ble_eq_true rfl), (Nat.le_of_ble_eq_true rfl)⟩) [0, 1] rfl (by decide) rfl hl.1 rfl (lv_room (Nat.le_of_ble_eq_true rfl)) dX6_hasSameEnvelope_10 ⟨(Nat.le_of_ble_eq_true rfl), (Nat.le_of_ble_eq_true rfl)⟩) hP hD hS hA [0, 1] [] rfl rfl (by decide) (by decide) (fun u5 H locs hP hD hS => ?_)
  have hP : va_P g.1 vwCl [(q9, .inl (g.2 0, 20, .inl f10)), (q1, .inr (8, [w2, w3, w4, .ref q9, w6, w7, w8]))] H := hP
  have hD : va_D A [(q9, .inl (g.2 0, 20, .inl f10)), (q1, .inr (8, [w2, w3, w4, .ref q9, w6, w7, w8]))] := hD
  refine lv_aload_n hx hb dX6_hasSameEnvelope_13 rfl (lv_at hl 1 rfl) ?_
  refine lv_iload_n hx hb dX6_hasSameEnvelope_14 rfl (lv_at hl 3 rfl) ?_
  refine lv_iload_n hx hb dX6_hasSameEnvelope_15 rfl (lv_at hl 0 rfl) ?_
  refine g_i (wr := []) (rV (rest := [.int x20]) hx hb hml hown hE hP hD 1 rfl rfl (c1891_X6_instrumentNumber l g q1 q9 w2 w3 w4 w6 w7 w8 f10 (hf21) H.size) (kV_X6_instrumentNumber hE (e462 hE) rfl rfl ⟨(Nat.le_of_ble_eq_true rfl), (Nat.le_of_ble_eq_true rfl)⟩) [0, 1] rfl (by decide) rfl hl.1 rfl (lv_room (Nat.le_of_ble_eq_true rfl)) dX6_hasSameEnvelope_16 ⟨(Nat.le_of_ble_eq_true rfl), (Nat.le_of_ble_eq_true rfl)⟩) hP hD hS hA [0, 1] [] rfl rfl (by decide) (by decide) (fun u6 H locs hP hD hS => ?_)
  have hP : va_P g.1 vwCl [(q9, .inl (g.2 0, 20, .inl f10)), (q1, .inr (8, [w2, w3, w4, .ref q9, w6, w7, w8]))] H := hP
  have hD : va_D A [(q9, .inl (g.2 0, 20, .inl f10)), (q1, .inr (8, [w2, w3, w4, .ref q9, w6, w7, w8]))] := hD
  refine lv_icmp_eq (tgt := 24) hx hb dX6_hasSameEnvelope_19 (by decide) (fun h => absurd h h22) (fun _ => ?_)
  refine lv_iconst (v := 0) hx hb dX6_hasSameEnvelope_22 (by decide) ?_
  exact x_zret hx hb hr rfl rfl hlocks hP hD hS hAe hsz (Nat.le_of_ble_eq_true rfl) (Nat.le_of_ble_eq_true rfl) (fun _ => 0) [0, 1] (by decide) rfl dX6_hasSameEnvelope_23

set_option maxHeartbeats 4000000 in
set_option maxRecDepth 100000 in
theorem c1961_X6_hasSameEnvelope (l : Launch) (g : gG) (q1 q9 : Nat) (x12 x16 x20 : Int32) (w2 w3 w4 w6 w7 w8 : Value) (f10 : Nat → Int32) (hf11 : f10 5 = x12) (hf13 : f10 15 = 0) (hf15 : f10 6 = x16) (hf17 : f10 16 = 0) (hf19 : f10 7 = x20) (hf21 : f10 17 = 100) (h14 : x12 = 0) (h18 : x16 = 0) (h22 : ¬ x20 = 100) (sz : Nat) : Met l yX6_hasSameEnvelope [Cond.code yX6_hasSameEnvelope cX6_hasSameEnvelope 4 (some .boolean)] ({ frames := 1, cells := 0, slots := 0, locals := 23 } : Room) (va_Pc [.ref q1, .int 1, .int 3] (PX g sz [(q9, .inl (g.2 0, 20, .inl f10)), (q1, .inr (8, [w2, w3, w4, .ref q9, w6, w7, w8]))])) (QI g [(q9, .inl (g.2 0, 20, .inl f10)), (q1, .inr (8, [w2, w3, w4, .ref q9, w6, w7, w8]))] sz 0 (fun _ => [(q9, .inl (g.2 0, 20, .inl f10)), (q1, .inr (8, [w2, w3, w4, .ref q9, w6, w7, w8]))])) 0 0 (va_A [(q9, .inl (g.2 0, 20, .inl f10)), (q1, .inr (8, [w2, w3, w4, .ref q9, w6, w7, w8]))] sz) := by
  refine ofN (by decide) (Nat.le_of_ble_eq_true rfl) rfl ?_
  intro p e s m args below meth c A ls hAe hsz hx hb hml hr hlocks hin hown hE hP hD hA hS hl
  have hown : s.vm.findClass RX6 = some m.cls := hown
  refine lv_iconst (v := 0) hx hb dX6_hasSameEnvelope_0 (by decide) ?_
  refine lv_istore_n (lv' := [(3, .int 0), (0, .ref q1), (1, .int 1), (2, .int 3)]) hx hb dX6_hasSameEnvelope_1 rfl hl (by decide) rfl (fun ls hl => ?_)
  refine lv_iload_n hx hb dX6_hasSameEnvelope_2 rfl (lv_at hl 0 rfl) ?_
  refine lv_iconst (v := 3) hx hb dX6_hasSameEnvelope_3 (by decide) ?_
  refine lv_icmp_gt (tgt := 30) hx hb dX6_hasSameEnvelope_4 (by decide) (fun h => absurd h (by decide)) (fun _ => ?_)
  refine lv_aload_n hx hb dX6_hasSameEnvelope_7 rfl (lv_at hl 1 rfl) ?_
  refine lv_iload_n hx hb dX6_hasSameEnvelope_8 rfl (lv_at hl 2 rfl) ?_
  refine lv_iload_n hx hb dX6_hasSameEnvelope_9 rfl (lv_at hl 0 rfl) ?_
  refine g_i (wr := []) (rV (rest := []) hx hb hml hown hE hP hD 1 rfl rfl (c1940_X6_instrumentNumber l g q1 q9 x12 w2 w3 w4 w6 w7 w8 f10 (hf11) s.heap.size) (kV_X6_instrumentNumber hE (e462 hE) rfl rfl ⟨(Nat.le_of_ble_eq_true rfl), (Nat.le_of_ble_eq_true rfl)⟩) [0, 1] rfl (by decide) rfl hl.1 rfl (lv_room (Nat.le_of_ble_eq_true rfl)) dX6_hasSameEnvelope_10 ⟨(Nat.le_of_ble_eq_true rfl), (Nat.le_of_ble_eq_true rfl)⟩) hP hD hS hA [0, 1] [] rfl rfl (by decide) (by decide) (fun u1 H locs hP hD hS => ?_)
  have hP : va_P g.1 vwCl [(q9, .inl (g.2 0, 20, .inl f10)), (q1, .inr (8, [w2, w3, w4, .ref q9, w6, w7, w8]))] H := hP
  have hD : va_D A [(q9, .inl (g.2 0, 20, .inl f10)), (q1, .inr (8, [w2, w3, w4, .ref q9, w6, w7, w8]))] := hD
  refine lv_aload_n hx hb dX6_hasSameEnvelope_13 rfl (lv_at hl 1 rfl) ?_
  refine lv_iload_n hx hb dX6_hasSameEnvelope_14 rfl (lv_at hl 3 rfl) ?_
  refine lv_iload_n hx hb dX6_hasSameEnvelope_15 rfl (lv_at hl 0 rfl) ?_
  refine g_i (wr := []) (rV (rest := [.int x12]) hx hb hml hown hE hP hD 1 rfl rfl (c1894_X6_instrumentNumber l g q1 q9 w2 w3 w4 w6 w7 w8 f10 (hf13) H.size) (kV_X6_instrumentNumber hE (e462 hE) rfl rfl ⟨(Nat.le_of_ble_eq_true rfl), (Nat.le_of_ble_eq_true rfl)⟩) [0, 1] rfl (by decide) rfl hl.1 rfl (lv_room (Nat.le_of_ble_eq_true rfl)) dX6_hasSameEnvelope_16 ⟨(Nat.le_of_ble_eq_true rfl), (Nat.le_of_ble_eq_true rfl)⟩) hP hD hS hA [0, 1] [] rfl rfl (by decide) (by decide) (fun u2 H locs hP hD hS => ?_)
  have hP : va_P g.1 vwCl [(q9, .inl (g.2 0, 20, .inl f10)), (q1, .inr (8, [w2, w3, w4, .ref q9, w6, w7, w8]))] H := hP
  have hD : va_D A [(q9, .inl (g.2 0, 20, .inl f10)), (q1, .inr (8, [w2, w3, w4, .ref q9, w6, w7, w8]))] := hD
  refine lv_icmp_eq (tgt := 24) hx hb dX6_hasSameEnvelope_19 (by decide) (fun _ => ?_) (fun h => absurd h14 h)
  refine lv_iinc (v := 1) (lv' := [(3, .int 1), (0, .ref q1), (1, .int 1), (2, .int 3)]) hx hb dX6_hasSameEnvelope_24 hl (k := 0) rfl (by decide) (by decide) rfl (fun ls hl => ?_)
  refine lv_goto (tgt := 2) hx hb dX6_hasSameEnvelope_27 (by decide) ?_
  refine lv_iload_n hx hb dX6_hasSameEnvelope_2 rfl (lv_at hl 0 rfl) ?_
  refine lv_iconst (v := 3) hx hb dX6_hasSameEnvelope_3 (by decide) ?_
  refine lv_icmp_gt (tgt := 30) hx hb dX6_hasSameEnvelope_4 (by decide) (fun h => absurd h (by decide)) (fun _ => ?_)
  refine lv_aload_n hx hb dX6_hasSameEnvelope_7 rfl (lv_at hl 1 rfl) ?_
  refine lv_iload_n hx hb dX6_hasSameEnvelope_8 rfl (lv_at hl 2 rfl) ?_
  refine lv_iload_n hx hb dX6_hasSameEnvelope_9 rfl (lv_at hl 0 rfl) ?_
  refine g_i (wr := []) (rV (rest := []) hx hb hml hown hE hP hD 1 rfl rfl (c1941_X6_instrumentNumber l g q1 q9 x16 w2 w3 w4 w6 w7 w8 f10 (hf15) H.size) (kV_X6_instrumentNumber hE (e462 hE) rfl rfl ⟨(Nat.le_of_ble_eq_true rfl), (Nat.le_of_ble_eq_true rfl)⟩) [0, 1] rfl (by decide) rfl hl.1 rfl (lv_room (Nat.le_of_ble_eq_true rfl)) dX6_hasSameEnvelope_10 ⟨(Nat.le_of_ble_eq_true rfl), (Nat.le_of_ble_eq_true rfl)⟩) hP hD hS hA [0, 1] [] rfl rfl (by decide) (by decide) (fun u3 H locs hP hD hS => ?_)
  have hP : va_P g.1 vwCl [(q9, .inl (g.2 0, 20, .inl f10)), (q1, .inr (8, [w2, w3, w4, .ref q9, w6, w7, w8]))] H := hP
  have hD : va_D A [(q9, .inl (g.2 0, 20, .inl f10)), (q1, .inr (8, [w2, w3, w4, .ref q9, w6, w7, w8]))] := hD
  refine lv_aload_n hx hb dX6_hasSameEnvelope_13 rfl (lv_at hl 1 rfl) ?_
  refine lv_iload_n hx hb dX6_hasSameEnvelope_14 rfl (lv_at hl 3 rfl) ?_
  refine lv_iload_n hx hb dX6_hasSameEnvelope_15 rfl (lv_at hl 0 rfl) ?_
  refine g_i (wr := []) (rV (rest := [.int x16]) hx hb hml hown hE hP hD 1 rfl rfl (c1895_X6_instrumentNumber l g q1 q9 w2 w3 w4 w6 w7 w8 f10 (hf17) H.size) (kV_X6_instrumentNumber hE (e462 hE) rfl rfl ⟨(Nat.le_of_ble_eq_true rfl), (Nat.le_of_ble_eq_true rfl)⟩) [0, 1] rfl (by decide) rfl hl.1 rfl (lv_room (Nat.le_of_ble_eq_true rfl)) dX6_hasSameEnvelope_16 ⟨(Nat.le_of_ble_eq_true rfl), (Nat.le_of_ble_eq_true rfl)⟩) hP hD hS hA [0, 1] [] rfl rfl (by decide) (by decide) (fun u4 H locs hP hD hS => ?_)
  have hP : va_P g.1 vwCl [(q9, .inl (g.2 0, 20, .inl f10)), (q1, .inr (8, [w2, w3, w4, .ref q9, w6, w7, w8]))] H := hP
  have hD : va_D A [(q9, .inl (g.2 0, 20, .inl f10)), (q1, .inr (8, [w2, w3, w4, .ref q9, w6, w7, w8]))] := hD
  refine lv_icmp_eq (tgt := 24) hx hb dX6_hasSameEnvelope_19 (by decide) (fun _ => ?_) (fun h => absurd h18 h)
  refine lv_iinc (v := 2) (lv' := [(3, .int 2), (0, .ref q1), (1, .int 1), (2, .int 3)]) hx hb dX6_hasSameEnvelope_24 hl (k := 0) rfl (by decide) (by decide) rfl (fun ls hl => ?_)
  refine lv_goto (tgt := 2) hx hb dX6_hasSameEnvelope_27 (by decide) ?_
  refine lv_iload_n hx hb dX6_hasSameEnvelope_2 rfl (lv_at hl 0 rfl) ?_
  refine lv_iconst (v := 3) hx hb dX6_hasSameEnvelope_3 (by decide) ?_
  refine lv_icmp_gt (tgt := 30) hx hb dX6_hasSameEnvelope_4 (by decide) (fun h => absurd h (by decide)) (fun _ => ?_)
  refine lv_aload_n hx hb dX6_hasSameEnvelope_7 rfl (lv_at hl 1 rfl) ?_
  refine lv_iload_n hx hb dX6_hasSameEnvelope_8 rfl (lv_at hl 2 rfl) ?_
  refine lv_iload_n hx hb dX6_hasSameEnvelope_9 rfl (lv_at hl 0 rfl) ?_
  refine g_i (wr := []) (rV (rest := []) hx hb hml hown hE hP hD 1 rfl rfl (c1942_X6_instrumentNumber l g q1 q9 x20 w2 w3 w4 w6 w7 w8 f10 (hf19) H.size) (kV_X6_instrumentNumber hE (e462 hE) rfl rfl ⟨(Nat.le_of_ble_eq_true rfl), (Nat.le_of_ble_eq_true rfl)⟩) [0, 1] rfl (by decide) rfl hl.1 rfl (lv_room (Nat.le_of_ble_eq_true rfl)) dX6_hasSameEnvelope_10 ⟨(Nat.le_of_ble_eq_true rfl), (Nat.le_of_ble_eq_true rfl)⟩) hP hD hS hA [0, 1] [] rfl rfl (by decide) (by decide) (fun u5 H locs hP hD hS => ?_)
  have hP : va_P g.1 vwCl [(q9, .inl (g.2 0, 20, .inl f10)), (q1, .inr (8, [w2, w3, w4, .ref q9, w6, w7, w8]))] H := hP
  have hD : va_D A [(q9, .inl (g.2 0, 20, .inl f10)), (q1, .inr (8, [w2, w3, w4, .ref q9, w6, w7, w8]))] := hD
  refine lv_aload_n hx hb dX6_hasSameEnvelope_13 rfl (lv_at hl 1 rfl) ?_
  refine lv_iload_n hx hb dX6_hasSameEnvelope_14 rfl (lv_at hl 3 rfl) ?_
  refine lv_iload_n hx hb dX6_hasSameEnvelope_15 rfl (lv_at hl 0 rfl) ?_
  refine g_i (wr := []) (rV (rest := [.int x20]) hx hb hml hown hE hP hD 1 rfl rfl (c1896_X6_instrumentNumber l g q1 q9 w2 w3 w4 w6 w7 w8 f10 (hf21) H.size) (kV_X6_instrumentNumber hE (e462 hE) rfl rfl ⟨(Nat.le_of_ble_eq_true rfl), (Nat.le_of_ble_eq_true rfl)⟩) [0, 1] rfl (by decide) rfl hl.1 rfl (lv_room (Nat.le_of_ble_eq_true rfl)) dX6_hasSameEnvelope_16 ⟨(Nat.le_of_ble_eq_true rfl), (Nat.le_of_ble_eq_true rfl)⟩) hP hD hS hA [0, 1] [] rfl rfl (by decide) (by decide) (fun u6 H locs hP hD hS => ?_)
  have hP : va_P g.1 vwCl [(q9, .inl (g.2 0, 20, .inl f10)), (q1, .inr (8, [w2, w3, w4, .ref q9, w6, w7, w8]))] H := hP
  have hD : va_D A [(q9, .inl (g.2 0, 20, .inl f10)), (q1, .inr (8, [w2, w3, w4, .ref q9, w6, w7, w8]))] := hD
  refine lv_icmp_eq (tgt := 24) hx hb dX6_hasSameEnvelope_19 (by decide) (fun h => absurd h h22) (fun _ => ?_)
  refine lv_iconst (v := 0) hx hb dX6_hasSameEnvelope_22 (by decide) ?_
  exact x_zret hx hb hr rfl rfl hlocks hP hD hS hAe hsz (Nat.le_of_ble_eq_true rfl) (Nat.le_of_ble_eq_true rfl) (fun _ => 0) [0, 1] (by decide) rfl dX6_hasSameEnvelope_23

set_option maxHeartbeats 4000000 in
set_option maxRecDepth 100000 in
theorem c1962_X6_countSameEnvelopes (l : Launch) (g : gG) (q1 q9 : Nat) (x12 x15 x18 x21 : Int32) (w2 w3 w4 w6 w7 w8 : Value) (f10 : Nat → Int32) (hf11 : f10 5 = x12) (hf13 : f10 0 = 0) (hf14 : f10 6 = x15) (hf16 : f10 1 = 0) (hf17 : f10 7 = x18) (hf19 : f10 2 = 100) (hf20 : f10 8 = x21) (hf22 : f10 3 = 0) (hf26 : f10 10 = 0) (hf27 : f10 11 = 0) (hf28 : f10 12 = 100) (hf29 : f10 13 = 0) (hf30 : f10 15 = 0) (hf31 : f10 16 = 0) (hf32 : f10 17 = 100) (hf33 : f10 18 = 0) (h23 : x12 = 0) (h24 : x15 = 0) (h25 : ¬ x18 = 100) (sz : Nat) : Met l yX6_countSameEnvelopes [Cond.code yX6_countSameEnvelopes cX6_countSameEnvelopes 4 (some .int)] ({ frames := 2, cells := 0, slots := 0, locals := 46 } : Room) (va_Pc [.ref q1, .int 1] (PX g sz [(q9, .inl (g.2 0, 20, .inl f10)), (q1, .inr (8, [w2, w3, w4, .ref q9, w6, w7, w8]))])) (QI g [(q9, .inl (g.2 0, 20, .inl f10)), (q1, .inr (8, [w2, w3, w4, .ref q9, w6, w7, w8]))] sz 1 (fun _ => [(q9, .inl (g.2 0, 20, .inl f10)), (q1, .inr (8, [w2, w3, w4, .ref q9, w6, w7, w8]))])) 0 0 (va_A [(q9, .inl (g.2 0, 20, .inl f10)), (q1, .inr (8, [w2, w3, w4, .ref q9, w6, w7, w8]))] sz) := by
  refine ofN (by decide) (Nat.le_of_ble_eq_true rfl) rfl ?_
  intro p e s m args below meth c A ls hAe hsz hx hb hml hr hlocks hin hown hE hP hD hA hS hl
  have hown : s.vm.findClass RX6 = some m.cls := hown
  refine lv_iconst (v := 0) hx hb dX6_countSameEnvelopes_0 (by decide) ?_
  refine lv_istore_n (lv' := [(2, .int 0), (0, .ref q1), (1, .int 1)]) hx hb dX6_countSameEnvelopes_1 rfl hl (by decide) rfl (fun ls hl => ?_)
  refine lv_iconst (v := 0) hx hb dX6_countSameEnvelopes_2 (by decide) ?_
  refine lv_istore_n (lv' := [(3, .int 0), (2, .int 0), (0, .ref q1), (1, .int 1)]) hx hb dX6_countSameEnvelopes_3 rfl hl (by decide) rfl (fun ls hl => ?_)
  refine lv_iload_n hx hb dX6_countSameEnvelopes_4 rfl (lv_at hl 0 rfl) ?_
  refine lv_iconst (v := 4) hx hb dX6_countSameEnvelopes_5 (by decide) ?_
  refine lv_icmp_ge (tgt := 27) hx hb dX6_countSameEnvelopes_6 (by decide) (fun h => absurd h (by decide)) (fun _ => ?_)
  refine lv_aload_n hx hb dX6_countSameEnvelopes_9 rfl (lv_at hl 2 rfl) ?_
  refine lv_iload_n hx hb dX6_countSameEnvelopes_10 rfl (lv_at hl 3 rfl) ?_
  refine lv_iload_n hx hb dX6_countSameEnvelopes_11 rfl (lv_at hl 0 rfl) ?_
  refine g_i (wr := []) (rV (rest := []) hx hb hml hown hE hP hD 1 rfl rfl (c1959_X6_hasSameEnvelope l g q1 q9 x12 x15 x18 w2 w3 w4 w6 w7 w8 f10 (hf11) (hf13) (hf14) (hf16) (hf17) (hf19) h23 h24 h25 s.heap.size) (kV_X6_hasSameEnvelope hE (e999 hE) rfl rfl ⟨(Nat.le_of_ble_eq_true rfl), (Nat.le_of_ble_eq_true rfl)⟩) [0, 1] rfl (by decide) rfl hl.1 rfl (lv_room (Nat.le_of_ble_eq_true rfl)) dX6_countSameEnvelopes_12 ⟨(Nat.le_of_ble_eq_true rfl), (Nat.le_of_ble_eq_true rfl)⟩) hP hD hS hA [0, 1] [] rfl rfl (by decide) (by decide) (fun u1 H locs hP hD hS => ?_)
  have hP : va_P g.1 vwCl [(q9, .inl (g.2 0, 20, .inl f10)), (q1, .inr (8, [w2, w3, w4, .ref q9, w6, w7, w8]))] H := hP
  have hD : va_D A [(q9, .inl (g.2 0, 20, .inl f10)), (q1, .inr (8, [w2, w3, w4, .ref q9, w6, w7, w8]))] := hD
  refine lv_if_eq (tgt := 21) hx hb dX6_countSameEnvelopes_15 (by decide) (fun _ => ?_) (fun h => absurd (by decide) h)
  refine lv_iinc (v := 1) (lv' := [(3, .int 1), (2, .int 0), (0, .ref q1), (1, .int 1)]) hx hb dX6_countSameEnvelopes_21 hl (k := 0) rfl (by decide) (by decide) rfl (fun ls hl => ?_)
  refine lv_goto (tgt := 4) hx hb dX6_countSameEnvelopes_24 (by decide) ?_
  refine lv_iload_n hx hb dX6_countSameEnvelopes_4 rfl (lv_at hl 0 rfl) ?_
  refine lv_iconst (v := 4) hx hb dX6_countSameEnvelopes_5 (by decide) ?_
  refine lv_icmp_ge (tgt := 27) hx hb dX6_countSameEnvelopes_6 (by decide) (fun h => absurd h (by decide)) (fun _ => ?_)
  refine lv_aload_n hx hb dX6_countSameEnvelopes_9 rfl (lv_at hl 2 rfl) ?_
  refine lv_iload_n hx hb dX6_countSameEnvelopes_10 rfl (lv_at hl 3 rfl) ?_
  refine lv_iload_n hx hb dX6_countSameEnvelopes_11 rfl (lv_at hl 0 rfl) ?_
  refine g_i (wr := []) (rV (rest := []) hx hb hml hown hE hP hD 1 rfl rfl (c1945_X6_hasSameEnvelope l g q1 q9 x12 x15 x18 x21 w2 w3 w4 w6 w7 w8 f10 (hf11) (hf14) (hf17) (hf20) H.size) (kV_X6_hasSameEnvelope hE (e999 hE) rfl rfl ⟨(Nat.le_of_ble_eq_true rfl), (Nat.le_of_ble_eq_true rfl)⟩) [0, 1] rfl (by decide) rfl hl.1 rfl (lv_room (Nat.le_of_ble_eq_true rfl)) dX6_countSameEnvelopes_12 ⟨(Nat.le_of_ble_eq_true rfl), (Nat.le_of_ble_eq_true rfl)⟩) hP hD hS hA [0, 1] [] rfl rfl (by decide) (by decide) (fun u2 H locs hP hD hS => ?_)
  have hP : va_P g.1 vwCl [(q9, .inl (g.2 0, 20, .inl f10)), (q1, .inr (8, [w2, w3, w4, .ref q9, w6, w7, w8]))] H := hP
  have hD : va_D A [(q9, .inl (g.2 0, 20, .inl f10)), (q1, .inr (8, [w2, w3, w4, .ref q9, w6, w7, w8]))] := hD
  refine lv_if_eq (tgt := 21) hx hb dX6_countSameEnvelopes_15 (by decide) (fun h => absurd h (by decide)) (fun _ => ?_)
  refine lv_iinc (v := 1) (lv' := [(2, .int 1), (3, .int 1), (0, .ref q1), (1, .int 1)]) hx hb dX6_countSameEnvelopes_18 hl (k := 1) rfl (by decide) (by decide) rfl (fun ls hl => ?_)
  refine lv_iinc (v := 2) (lv' := [(3, .int 2), (2, .int 1), (0, .ref q1), (1, .int 1)]) hx hb dX6_countSameEnvelopes_21 hl (k := 1) rfl (by decide) (by decide) rfl (fun ls hl => ?_)
  refine lv_goto (tgt := 4) hx hb dX6_countSameEnvelopes_24 (by decide) ?_
  refine lv_iload_n hx hb dX6_countSameEnvelopes_4 rfl (lv_at hl 0 rfl) ?_
  refine lv_iconst (v := 4) hx hb dX6_countSameEnvelopes_5 (by decide) ?_
  refine lv_icmp_ge (tgt := 27) hx hb dX6_countSameEnvelopes_6 (by decide) (fun h => absurd h (by decide)) (fun _ => ?_)
  refine lv_aload_n hx hb dX6_countSameEnvelopes_9 rfl (lv_at hl 2 rfl) ?_
  refine lv_iload_n hx hb dX6_countSameEnvelopes_10 rfl (lv_at hl 3 rfl) ?_
  refine lv_iload_n hx hb dX6_countSameEnvelopes_11 rfl (lv_at hl 0 rfl) ?_
  refine g_i (wr := []) (rV (rest := []) hx hb hml hown hE hP hD 1 rfl rfl (c1960_X6_hasSameEnvelope l g q1 q9 x12 x15 x18 w2 w3 w4 w6 w7 w8 f10 (hf11) (hf26) (hf14) (hf27) (hf17) (hf28) h23 h24 h25 H.size) (kV_X6_hasSameEnvelope hE (e999 hE) rfl rfl ⟨(Nat.le_of_ble_eq_true rfl), (Nat.le_of_ble_eq_true rfl)⟩) [0, 1] rfl (by decide) rfl hl.1 rfl (lv_room (Nat.le_of_ble_eq_true rfl)) dX6_countSameEnvelopes_12 ⟨(Nat.le_of_ble_eq_true rfl), (Nat.le_of_ble_eq_true rfl)⟩) hP hD hS hA [0, 1] [] rfl rfl (by decide) (by decide) (fun u3 H locs hP hD hS => ?_)
  have hP : va_P g.1 vwCl [(q9, .inl (g.2 0, 20, .inl f10)), (q1, .inr (8, [w2, w3, w4, .ref q9, w6, w7, w8]))] H := hP
  have hD : va_D A [(q9, .inl (g.2 0, 20, .inl f10)), (q1, .inr (8, [w2, w3, w4, .ref q9, w6, w7, w8]))] := hD
  refine lv_if_eq (tgt := 21) hx hb dX6_countSameEnvelopes_15 (by decide) (fun _ => ?_) (fun h => absurd (by decide) h)
  refine lv_iinc (v := 3) (lv' := [(3, .int 3), (2, .int 1), (0, .ref q1), (1, .int 1)]) hx hb dX6_countSameEnvelopes_21 hl (k := 0) rfl (by decide) (by decide) rfl (fun ls hl => ?_)
  refine lv_goto (tgt := 4) hx hb dX6_countSameEnvelopes_24 (by decide) ?_
  refine lv_iload_n hx hb dX6_countSameEnvelopes_4 rfl (lv_at hl 0 rfl) ?_
  refine lv_iconst (v := 4) hx hb dX6_countSameEnvelopes_5 (by decide) ?_
  refine lv_icmp_ge (tgt := 27) hx hb dX6_countSameEnvelopes_6 (by decide) (fun h => absurd h (by decide)) (fun _ => ?_)
  refine lv_aload_n hx hb dX6_countSameEnvelopes_9 rfl (lv_at hl 2 rfl) ?_
  refine lv_iload_n hx hb dX6_countSameEnvelopes_10 rfl (lv_at hl 3 rfl) ?_
  refine lv_iload_n hx hb dX6_countSameEnvelopes_11 rfl (lv_at hl 0 rfl) ?_
  refine g_i (wr := []) (rV (rest := []) hx hb hml hown hE hP hD 1 rfl rfl (c1961_X6_hasSameEnvelope l g q1 q9 x12 x15 x18 w2 w3 w4 w6 w7 w8 f10 (hf11) (hf30) (hf14) (hf31) (hf17) (hf32) h23 h24 h25 H.size) (kV_X6_hasSameEnvelope hE (e999 hE) rfl rfl ⟨(Nat.le_of_ble_eq_true rfl), (Nat.le_of_ble_eq_true rfl)⟩) [0, 1] rfl (by decide) rfl hl.1 rfl (lv_room (Nat.le_of_ble_eq_true rfl)) dX6_countSameEnvelopes_12 ⟨(Nat.le_of_ble_eq_true rfl), (Nat.le_of_ble_eq_true rfl)⟩) hP hD hS hA [0, 1] [] rfl rfl (by decide) (by decide) (fun u4 H locs hP hD hS => ?_)
  have hP : va_P g.1 vwCl [(q9, .inl (g.2 0, 20, .inl f10)), (q1, .inr (8, [w2, w3, w4, .ref q9, w6, w7, w8]))] H := hP
  have hD : va_D A [(q9, .inl (g.2 0, 20, .inl f10)), (q1, .inr (8, [w2, w3, w4, .ref q9, w6, w7, w8]))] := hD
  refine lv_if_eq (tgt := 21) hx hb dX6_countSameEnvelopes_15 (by decide) (fun _ => ?_) (fun h => absurd (by decide) h)
  refine lv_iinc (v := 4) (lv' := [(3, .int 4), (2, .int 1), (0, .ref q1), (1, .int 1)]) hx hb dX6_countSameEnvelopes_21 hl (k := 0) rfl (by decide) (by decide) rfl (fun ls hl => ?_)
  refine lv_goto (tgt := 4) hx hb dX6_countSameEnvelopes_24 (by decide) ?_
  refine lv_iload_n hx hb dX6_countSameEnvelopes_4 rfl (lv_at hl 0 rfl) ?_
  refine lv_iconst (v := 4) hx hb dX6_countSameEnvelopes_5 (by decide) ?_
  refine lv_icmp_ge (tgt := 27) hx hb dX6_countSameEnvelopes_6 (by decide) (fun _ => ?_) (fun h => absurd (by decide) h)
  refine lv_iload_n hx hb dX6_countSameEnvelopes_27 rfl (lv_at hl 1 rfl) ?_
  exact x_zret hx hb hr rfl rfl hlocks hP hD hS hAe hsz (Nat.le_of_ble_eq_true rfl) (Nat.le_of_ble_eq_true rfl) (fun _ => 0) [0, 1] (by decide) rfl dX6_countSameEnvelopes_28

set_option maxHeartbeats 4000000 in
set_option maxRecDepth 100000 in
theorem c1963_X9_setEnvelope (l : Launch) (g : gG) (q1 q25 q29 q32 q34 q42 q43 q44 q45 q53 q54 q55 q56 q59 q60 q63 q64 q71 q72 q77 q78 : Nat) (x2 x3 x4 x5 : Int32) (w15 w16 w17 w18 w19 w20 w21 w22 w23 w24 w39 w40 w41 w75 w76 : Value) (f30 : Nat → Option Nat) (f65 : Nat → Int32) (f66 : Nat → Int32) (f79 : Nat → Int32) (f80 : Nat → Int32) (hf31 : f30 1 = some q32) (hf33 : f30 0 = some q34) (hf81 : f80 0 = 0) (hf82 : f80 1 = 0) (hf83 : f80 2 = 100) (hf84 : f80 3 = 0) (hf85 : f80 10 = 0) (hf86 : f80 11 = 0) (hf87 : f80 12 = 100) (hf88 : f80 13 = 0) (hf89 : f80 15 = 0) (hf90 : f80 16 = 0) (hf91 : f80 17 = 100) (hf92 : f80 18 = 0) (h6 : (0 : Int32) ≤ x2) (h7 : x2 ≤ 5000) (h8 : (0 : Int32) ≤ x3) (h9 : x3 ≤ 5000) (h10 : (0 : Int32) ≤ x4) (h11 : x4 ≤ 100) (h12 : (0 : Int32) ≤ x5) (h13 : x5 ≤ 5000) (h93 : x2 = 0) (h94 : x3 = 0) (h95 : ¬ x4 = 100) (sz : Nat) : Met l yX9_setEnvelope [Cond.code yX9_setEnvelope cX9_setEnvelope 7 (some .int)] ({ frames := 5, cells := 0, slots := 0, locals := 148 } : Room) (va_Pc [.ref q1, .int 1, .int x2, .int x3, .int x4, .int x5] (PX g sz [(q45, .inl (g.2 0, 20, .inl f80)), (q56, .inl (g.2 0, 20, .inl f80)), (q44, .inl (g.2 0, 60, .inl f65)), (q55, .inl (g.2 0, 60, .inl f65)), (q78, .inl (g.2 0, 10, .inl f79)), (q72, .inl (g.2 0, 10, .inl f79)), (q77, .inl (g.2 0, 10, .inl f65)), (q71, .inl (g.2 0, 10, .inl f65)), (q43, .inr (9, [.ref q77, .ref q78, w75, w76])), (q54, .inr (9, [.ref q71, .ref q72, .int 1, .int 0])), (q64, .inl (g.2 0, 40, .inl f66)), (q60, .inl (g.2 0, 40, .inl f66)), (q63, .inl (g.2 0, 384, .inl f65)), (q59, .inl (g.2 0, 384, .inl f65)), (q42, .inr (5, [.ref q63, .ref q64])), (q53, .inr (5, [.ref q59, .ref q60])), (q34, .inr (8, [.ref q53, .ref q54, .ref q55, .ref q56, .int 0, .int 4, .int 0])), (q32, .inr (8, [.ref q42, .ref q43, .ref q44, .ref q45, w39, w40, w41])), (q29, .inl (g.2 3, 10, .inr (.inr (.inr (.inr f30))))), (q25, .inr (10, [.ref q29, .int 0, .int 0])), (q1, .inr (11, [.ref q25, w15, w16, w17, w18, w19, w20, w21, w22, w23, w24]))])) (QI g [(q45, .inl (g.2 0, 20, .inl f80)), (q56, .inl (g.2 0, 20, .inl f80)), (q44, .inl (g.2 0, 60, .inl f65)), (q55, .inl (g.2 0, 60, .inl f65)), (q78, .inl (g.2 0, 10, .inl f79)), (q72, .inl (g.2 0, 10, .inl f79)), (q77, .inl (g.2 0, 10, .inl f65)), (q71, .inl (g.2 0, 10, .inl f65)), (q43, .inr (9, [.ref q77, .ref q78, w75, w76])), (q54, .inr (9, [.ref q71, .ref q72, .int 1, .int 0])), (q64, .inl (g.2 0, 40, .inl f66)), (q60, .inl (g.2 0, 40, .inl f66)), (q63, .inl (g.2 0, 384, .inl f65)), (q59, .inl (g.2 0, 384, .inl f65)), (q42, .inr (5, [.ref q63, .ref q64])), (q53, .inr (5, [.ref q59, .ref q60])), (q34, .inr (8, [.ref q53, .ref q54, .ref q55, .ref q56, .int 0, .int 4, .int 0])), (q32, .inr (8, [.ref q42, .ref q43, .ref q44, .ref q45, w39, w40, w41])), (q29, .inl (g.2 3, 10, .inr (.inr (.inr (.inr f30))))), (q25, .inr (10, [.ref q29, .int 0, .int 0])), (q1, .inr (11, [.ref q25, w15, w16, w17, w18, w19, w20, w21, w22, w23, w24]))] sz 1 (fun _ => [(q29, .inl (g.2 3, 10, .inr (.inr (.inr (.inr f30))))), (q34, .inr (8, [.ref q53, .ref q54, .ref q55, .ref q56, .int 0, .int 4, .int 0])), (q42, .inr (5, [.ref q63, .ref q64])), (q53, .inr (5, [.ref q59, .ref q60])), (q63, .inl (g.2 0, 384, .inl f65)), (q59, .inl (g.2 0, 384, .inl f65)), (q64, .inl (g.2 0, 40, .inl f66)), (q60, .inl (g.2 0, 40, .inl f66)), (q43, .inr (9, [.ref q77, .ref q78, .int 1, .int 0])), (q54, .inr (9, [.ref q71, .ref q72, .int 1, .int 0])), (q77, .inl (g.2 0, 10, .inl f65)), (q71, .inl (g.2 0, 10, .inl f65)), (q78, .inl (g.2 0, 10, .inl f79)), (q72, .inl (g.2 0, 10, .inl f79)), (q44, .inl (g.2 0, 60, .inl f65)), (q55, .inl (g.2 0, 60, .inl f65)), (q56, .inl (g.2 0, 20, .inl f80)), (q25, .inr (10, [.ref q29, .int 1, .int 1])), (q1, .inr (11, [.ref q25, w15, w16, w17, w18, w19, w20, w21, .int 0, .int 0, w24])), (q45, .inl (g.2 0, 20, .inl (upd (upd (upd (upd f80 5 x2) 6 x3) 7 x4) 8 x5))), (q32, .inr (8, [.ref q42, .ref q43, .ref q44, .ref q45, .int 0, .int 4, .int 0]))])) 0 0 (va_A [(q45, .inl (g.2 0, 20, .inl f80)), (q56, .inl (g.2 0, 20, .inl f80)), (q44, .inl (g.2 0, 60, .inl f65)), (q55, .inl (g.2 0, 60, .inl f65)), (q78, .inl (g.2 0, 10, .inl f79)), (q72, .inl (g.2 0, 10, .inl f79)), (q77, .inl (g.2 0, 10, .inl f65)), (q71, .inl (g.2 0, 10, .inl f65)), (q43, .inr (9, [.ref q77, .ref q78, w75, w76])), (q54, .inr (9, [.ref q71, .ref q72, .int 1, .int 0])), (q64, .inl (g.2 0, 40, .inl f66)), (q60, .inl (g.2 0, 40, .inl f66)), (q63, .inl (g.2 0, 384, .inl f65)), (q59, .inl (g.2 0, 384, .inl f65)), (q42, .inr (5, [.ref q63, .ref q64])), (q53, .inr (5, [.ref q59, .ref q60])), (q34, .inr (8, [.ref q53, .ref q54, .ref q55, .ref q56, .int 0, .int 4, .int 0])), (q32, .inr (8, [.ref q42, .ref q43, .ref q44, .ref q45, w39, w40, w41])), (q29, .inl (g.2 3, 10, .inr (.inr (.inr (.inr f30))))), (q25, .inr (10, [.ref q29, .int 0, .int 0])), (q1, .inr (11, [.ref q25, w15, w16, w17, w18, w19, w20, w21, w22, w23, w24]))] sz) := by
  refine ofN (by decide) (Nat.le_of_ble_eq_true rfl) rfl ?_
  intro p e s m args below meth c A ls hAe hsz hx hb hml hr hlocks hin hown hE hP hD hA hS hl
  have hown : s.vm.findClass RX9 = some m.cls := hown
  refine lv_iload_n hx hb dX9_setEnvelope_0 rfl (lv_at hl 1 rfl) ?_
  refine g0_v (rS (rest := []) hx hb hml hown hE hP hD (c1854_X9_requireInstrument l g 1 (by decide) (by decide) s.heap.size) (kS_X9_requireInstrument hE (e991 hE) rfl rfl ⟨(Nat.le_of_ble_eq_true rfl), (Nat.le_of_ble_eq_true rfl)⟩) [] rfl (by decide) rfl hl.1 rfl (lv_room (Nat.le_of_ble_eq_true rfl)) dX9_setEnvelope_1 ⟨(Nat.le_of_ble_eq_true rfl), (Nat.le_of_ble_eq_true rfl)⟩) hP hD hS hA (fun u9 H locs hP hS => ?_)
  refine lv_iload_n hx hb dX9_setEnvelope_4 rfl (lv_at hl 2 rfl) ?_
  refine lv_iconst (v := 0) hx hb dX9_setEnvelope_5 (by decide) ?_
  refine lv_sipush (v := 5000) hx hb dX9_setEnvelope_6 (by decide) ?_
  refine g0_v (rS (rest := []) hx hb hml hown hE hP hD (c1859_X9_requireRange l g x2 h6 h7 H.size) (kS_X9_requireRange hE (e636 hE) rfl rfl ⟨(Nat.le_of_ble_eq_true rfl), (Nat.le_of_ble_eq_true rfl)⟩) [] rfl (by decide) rfl hl.1 rfl (lv_room (Nat.le_of_ble_eq_true rfl)) dX9_setEnvelope_9 ⟨(Nat.le_of_ble_eq_true rfl), (Nat.le_of_ble_eq_true rfl)⟩) hP hD hS hA (fun u9 H locs hP hS => ?_)
  refine lv_iload_n hx hb dX9_setEnvelope_12 rfl (lv_at hl 3 rfl) ?_
  refine lv_iconst (v := 0) hx hb dX9_setEnvelope_13 (by decide) ?_
  refine lv_sipush (v := 5000) hx hb dX9_setEnvelope_14 (by decide) ?_
  refine g0_v (rS (rest := []) hx hb hml hown hE hP hD (c1859_X9_requireRange l g x3 h8 h9 H.size) (kS_X9_requireRange hE (e636 hE) rfl rfl ⟨(Nat.le_of_ble_eq_true rfl), (Nat.le_of_ble_eq_true rfl)⟩) [] rfl (by decide) rfl hl.1 rfl (lv_room (Nat.le_of_ble_eq_true rfl)) dX9_setEnvelope_17 ⟨(Nat.le_of_ble_eq_true rfl), (Nat.le_of_ble_eq_true rfl)⟩) hP hD hS hA (fun u9 H locs hP hS => ?_)
  refine lv_iload hx hb dX9_setEnvelope_20 (lv_at hl 4 rfl) ?_
  refine lv_iconst (v := 0) hx hb dX9_setEnvelope_22 (by decide) ?_
  refine lv_bipush (v := 100) hx hb dX9_setEnvelope_23 (by decide) ?_
  refine g0_v (rS (rest := []) hx hb hml hown hE hP hD (c1866_X9_requireRange l g x4 h10 h11 H.size) (kS_X9_requireRange hE (e636 hE) rfl rfl ⟨(Nat.le_of_ble_eq_true rfl), (Nat.le_of_ble_eq_true rfl)⟩) [] rfl (by decide) rfl hl.1 rfl (lv_room (Nat.le_of_ble_eq_true rfl)) dX9_setEnvelope_25 ⟨(Nat.le_of_ble_eq_true rfl), (Nat.le_of_ble_eq_true rfl)⟩) hP hD hS hA (fun u9 H locs hP hS => ?_)
  refine lv_iload hx hb dX9_setEnvelope_28 (lv_at hl 5 rfl) ?_
  refine lv_iconst (v := 0) hx hb dX9_setEnvelope_30 (by decide) ?_
  refine lv_sipush (v := 5000) hx hb dX9_setEnvelope_31 (by decide) ?_
  refine g0_v (rS (rest := []) hx hb hml hown hE hP hD (c1859_X9_requireRange l g x5 h12 h13 H.size) (kS_X9_requireRange hE (e636 hE) rfl rfl ⟨(Nat.le_of_ble_eq_true rfl), (Nat.le_of_ble_eq_true rfl)⟩) [] rfl (by decide) rfl hl.1 rfl (lv_room (Nat.le_of_ble_eq_true rfl)) dX9_setEnvelope_34 ⟨(Nat.le_of_ble_eq_true rfl), (Nat.le_of_ble_eq_true rfl)⟩) hP hD hS hA (fun u9 H locs hP hS => ?_)
  refine lv_aload_n hx hb dX9_setEnvelope_37 rfl (lv_at hl 0 rfl) ?_
  refine gf_RX9_12 hx hb hown hE hP 20 rfl rfl dX9_setEnvelope_38 ?_
  refine g_r (wr := [(q1, .inr (11, [.ref q25, w15, w16, w17, w18, w19, w20, w21, w22, w23, w24]))]) (rV (rest := []) hx hb hml hown hE hP hD 19 rfl rfl (c127_X8_draft l g q25 q29 q32 q34 q42 q53 q59 q63 q60 q64 q43 q54 q71 q77 q72 q78 q55 q44 q56 q45 (.int 0) w39 w40 w41 w75 w76 f30 f65 f66 f79 f80 (hf31) (hf33) H.size) (kV_X8_draft hE (e659 hE) rfl rfl ⟨(Nat.le_of_ble_eq_true rfl), (Nat.le_of_ble_eq_true rfl)⟩) [0, 1, 2, 3, 4, 5, 6, 7, 8, 9, 10, 11, 12, 13, 14, 15, 16, 17, 18, 19] rfl (by decide) rfl hl.1 rfl (lv_room (Nat.le_of_ble_eq_true rfl)) dX9_setEnvelope_41 ⟨(Nat.le_of_ble_eq_true rfl), (Nat.le_of_ble_eq_true rfl)⟩) hP hD hS hA [0, 1, 2, 3, 4, 5, 6, 7, 8, 9, 10, 11, 12, 13, 14, 15, 16, 17, 18, 19] [20] rfl rfl (by decide) (by decide) (fun u6 H locs hP hD hS => ?_)
  have hP : va_P g.1 vwCl [(q1, .inr (11, [.ref q25, w15, w16, w17, w18, w19, w20, w21, w22, w23, w24])), (q29, .inl (g.2 3, 10, .inr (.inr (.inr (.inr f30))))), (q25, .inr (10, [.ref q29, .int 0, .int 0])), (q34, .inr (8, [.ref q53, .ref q54, .ref q55, .ref q56, .int 0, .int 4, .int 0])), (q32, .inr (8, [.ref q42, .ref q43, .ref q44, .ref q45, .int 0, .int 4, .int 0])), (q42, .inr (5, [.ref q63, .ref q64])), (q53, .inr (5, [.ref q59, .ref q60])), (q63, .inl (g.2 0, 384, .inl f65)), (q59, .inl (g.2 0, 384, .inl f65)), (q64, .inl (g.2 0, 40, .inl f66)), (q60, .inl (g.2 0, 40, .inl f66)), (q43, .inr (9, [.ref q77, .ref q78, .int 1, .int 0])), (q54, .inr (9, [.ref q71, .ref q72, .int 1, .int 0])), (q77, .inl (g.2 0, 10, .inl f65)), (q71, .inl (g.2 0, 10, .inl f65)), (q78, .inl (g.2 0, 10, .inl f79)), (q72, .inl (g.2 0, 10, .inl f79)), (q44, .inl (g.2 0, 60, .inl f65)), (q55, .inl (g.2 0, 60, .inl f65)), (q45, .inl (g.2 0, 20, .inl f80)), (q56, .inl (g.2 0, 20, .inl f80))] H := hP
  have hD : va_D A [(q1, .inr (11, [.ref q25, w15, w16, w17, w18, w19, w20, w21, w22, w23, w24])), (q29, .inl (g.2 3, 10, .inr (.inr (.inr (.inr f30))))), (q25, .inr (10, [.ref q29, .int 0, .int 0])), (q34, .inr (8, [.ref q53, .ref q54, .ref q55, .ref q56, .int 0, .int 4, .int 0])), (q32, .inr (8, [.ref q42, .ref q43, .ref q44, .ref q45, .int 0, .int 4, .int 0])), (q42, .inr (5, [.ref q63, .ref q64])), (q53, .inr (5, [.ref q59, .ref q60])), (q63, .inl (g.2 0, 384, .inl f65)), (q59, .inl (g.2 0, 384, .inl f65)), (q64, .inl (g.2 0, 40, .inl f66)), (q60, .inl (g.2 0, 40, .inl f66)), (q43, .inr (9, [.ref q77, .ref q78, .int 1, .int 0])), (q54, .inr (9, [.ref q71, .ref q72, .int 1, .int 0])), (q77, .inl (g.2 0, 10, .inl f65)), (q71, .inl (g.2 0, 10, .inl f65)), (q78, .inl (g.2 0, 10, .inl f79)), (q72, .inl (g.2 0, 10, .inl f79)), (q44, .inl (g.2 0, 60, .inl f65)), (q55, .inl (g.2 0, 60, .inl f65)), (q45, .inl (g.2 0, 20, .inl f80)), (q56, .inl (g.2 0, 20, .inl f80))] := hD
  refine lv_astore (lv' := [(6, .ref q32), (0, .ref q1), (1, .int 1), (2, .int x2), (3, .int x3), (4, .int x4), (5, .int x5)]) hx hb dX9_setEnvelope_44 hl (by decide) rfl (fun ls hl => ?_)
  refine lv_aload hx hb dX9_setEnvelope_46 (lv_at hl 0 rfl) ?_
  refine lv_iload_n hx hb dX9_setEnvelope_48 rfl (lv_at hl 2 rfl) ?_
  refine lv_iload_n hx hb dX9_setEnvelope_49 rfl (lv_at hl 3 rfl) ?_
  refine lv_iload_n hx hb dX9_setEnvelope_50 rfl (lv_at hl 4 rfl) ?_
  refine lv_iload hx hb dX9_setEnvelope_51 (lv_at hl 5 rfl) ?_
  refine lv_iload hx hb dX9_setEnvelope_53 (lv_at hl 6 rfl) ?_
  refine g_v (wr := [(q1, .inr (11, [.ref q25, w15, w16, w17, w18, w19, w20, w21, w22, w23, w24])), (q29, .inl (g.2 3, 10, .inr (.inr (.inr (.inr f30))))), (q25, .inr (10, [.ref q29, .int 0, .int 0])), (q34, .inr (8, [.ref q53, .ref q54, .ref q55, .ref q56, .int 0, .int 4, .int 0])), (q42, .inr (5, [.ref q63, .ref q64])), (q53, .inr (5, [.ref q59, .ref q60])), (q63, .inl (g.2 0, 384, .inl f65)), (q59, .inl (g.2 0, 384, .inl f65)), (q64, .inl (g.2 0, 40, .inl f66)), (q60, .inl (g.2 0, 40, .inl f66)), (q43, .inr (9, [.ref q77, .ref q78, .int 1, .int 0])), (q54, .inr (9, [.ref q71, .ref q72, .int 1, .int 0])), (q77, .inl (g.2 0, 10, .inl f65)), (q71, .inl (g.2 0, 10, .inl f65)), (q78, .inl (g.2 0, 10, .inl f79)), (q72, .inl (g.2 0, 10, .inl f79)), (q44, .inl (g.2 0, 60, .inl f65)), (q55, .inl (g.2 0, 60, .inl f65)), (q56, .inl (g.2 0, 20, .inl f80))]) (rV (rest := []) hx hb hml hown hE hP hD 4 rfl rfl (c1939_X6_putEnvelope l g q32 q45 x2 x3 x4 x5 (.ref q42) (.ref q43) (.ref q44) (.int 0) (.int 4) (.int 0) f80 H.size) (kV_X6_putEnvelope hE (e994 hE) rfl rfl ⟨(Nat.le_of_ble_eq_true rfl), (Nat.le_of_ble_eq_true rfl)⟩) [19, 4] rfl (by decide) rfl hl.1 rfl (lv_room (Nat.le_of_ble_eq_true rfl)) dX9_setEnvelope_55 ⟨(Nat.le_of_ble_eq_true rfl), (Nat.le_of_ble_eq_true rfl)⟩) hP hD hS hA [19, 4] [0, 1, 2, 3, 5, 6, 7, 8, 9, 10, 11, 12, 13, 14, 15, 16, 17, 18, 20] rfl rfl (by decide) (by decide) (fun u7 H locs hP hD hS => ?_)
  have hP : va_P g.1 vwCl [(q1, .inr (11, [.ref q25, w15, w16, w17, w18, w19, w20, w21, w22, w23, w24])), (q29, .inl (g.2 3, 10, .inr (.inr (.inr (.inr f30))))), (q25, .inr (10, [.ref q29, .int 0, .int 0])), (q34, .inr (8, [.ref q53, .ref q54, .ref q55, .ref q56, .int 0, .int 4, .int 0])), (q42, .inr (5, [.ref q63, .ref q64])), (q53, .inr (5, [.ref q59, .ref q60])), (q63, .inl (g.2 0, 384, .inl f65)), (q59, .inl (g.2 0, 384, .inl f65)), (q64, .inl (g.2 0, 40, .inl f66)), (q60, .inl (g.2 0, 40, .inl f66)), (q43, .inr (9, [.ref q77, .ref q78, .int 1, .int 0])), (q54, .inr (9, [.ref q71, .ref q72, .int 1, .int 0])), (q77, .inl (g.2 0, 10, .inl f65)), (q71, .inl (g.2 0, 10, .inl f65)), (q78, .inl (g.2 0, 10, .inl f79)), (q72, .inl (g.2 0, 10, .inl f79)), (q44, .inl (g.2 0, 60, .inl f65)), (q55, .inl (g.2 0, 60, .inl f65)), (q56, .inl (g.2 0, 20, .inl f80)), (q32, .inr (8, [.ref q42, .ref q43, .ref q44, .ref q45, .int 0, .int 4, .int 0])), (q45, .inl (g.2 0, 20, .inl (upd (upd (upd (upd f80 5 x2) 6 x3) 7 x4) 8 x5)))] H := hP
  have hD : va_D A [(q1, .inr (11, [.ref q25, w15, w16, w17, w18, w19, w20, w21, w22, w23, w24])), (q29, .inl (g.2 3, 10, .inr (.inr (.inr (.inr f30))))), (q25, .inr (10, [.ref q29, .int 0, .int 0])), (q34, .inr (8, [.ref q53, .ref q54, .ref q55, .ref q56, .int 0, .int 4, .int 0])), (q42, .inr (5, [.ref q63, .ref q64])), (q53, .inr (5, [.ref q59, .ref q60])), (q63, .inl (g.2 0, 384, .inl f65)), (q59, .inl (g.2 0, 384, .inl f65)), (q64, .inl (g.2 0, 40, .inl f66)), (q60, .inl (g.2 0, 40, .inl f66)), (q43, .inr (9, [.ref q77, .ref q78, .int 1, .int 0])), (q54, .inr (9, [.ref q71, .ref q72, .int 1, .int 0])), (q77, .inl (g.2 0, 10, .inl f65)), (q71, .inl (g.2 0, 10, .inl f65)), (q78, .inl (g.2 0, 10, .inl f79)), (q72, .inl (g.2 0, 10, .inl f79)), (q44, .inl (g.2 0, 60, .inl f65)), (q55, .inl (g.2 0, 60, .inl f65)), (q56, .inl (g.2 0, 20, .inl f80)), (q32, .inr (8, [.ref q42, .ref q43, .ref q44, .ref q45, .int 0, .int 4, .int 0])), (q45, .inl (g.2 0, 20, .inl (upd (upd (upd (upd f80 5 x2) 6 x3) 7 x4) 8 x5)))] := hD
  refine lv_aload_n hx hb dX9_setEnvelope_58 rfl (lv_at hl 1 rfl) ?_
  refine g_v (wr := [(q29, .inl (g.2 3, 10, .inr (.inr (.inr (.inr f30))))), (q34, .inr (8, [.ref q53, .ref q54, .ref q55, .ref q56, .int 0, .int 4, .int 0])), (q42, .inr (5, [.ref q63, .ref q64])), (q53, .inr (5, [.ref q59, .ref q60])), (q63, .inl (g.2 0, 384, .inl f65)), (q59, .inl (g.2 0, 384, .inl f65)), (q64, .inl (g.2 0, 40, .inl f66)), (q60, .inl (g.2 0, 40, .inl f66)), (q43, .inr (9, [.ref q77, .ref q78, .int 1, .int 0])), (q54, .inr (9, [.ref q71, .ref q72, .int 1, .int 0])), (q77, .inl (g.2 0, 10, .inl f65)), (q71, .inl (g.2 0, 10, .inl f65)), (q78, .inl (g.2 0, 10, .inl f79)), (q72, .inl (g.2 0, 10, .inl f79)), (q44, .inl (g.2 0, 60, .inl f65)), (q55, .inl (g.2 0, 60, .inl f65)), (q56, .inl (g.2 0, 20, .inl f80)), (q32, .inr (8, [.ref q42, .ref q43, .ref q44, .ref q45, .int 0, .int 4, .int 0])), (q45, .inl (g.2 0, 20, .inl (upd (upd (upd (upd f80 5 x2) 6 x3) 7 x4) 8 x5)))]) (rV (rest := []) hx hb hml hown hE hP hD 0 rfl rfl (c191_X9_accept l g q1 q25 w15 w16 w17 w18 w19 w20 w21 w22 w23 w24 (.ref q29) H.size) (kV_X9_accept hE (e718 hE) rfl rfl ⟨(Nat.le_of_ble_eq_true rfl), (Nat.le_of_ble_eq_true rfl)⟩) [2, 0] rfl (by decide) rfl hl.1 rfl (lv_room (Nat.le_of_ble_eq_true rfl)) dX9_setEnvelope_59 ⟨(Nat.le_of_ble_eq_true rfl), (Nat.le_of_ble_eq_true rfl)⟩) hP hD hS hA [2, 0] [1, 3, 4, 5, 6, 7, 8, 9, 10, 11, 12, 13, 14, 15, 16, 17, 18, 19, 20] rfl rfl (by decide) (by decide) (fun u8 H locs hP hD hS => ?_)
  have hP : va_P g.1 vwCl [(q29, .inl (g.2 3, 10, .inr (.inr (.inr (.inr f30))))), (q34, .inr (8, [.ref q53, .ref q54, .ref q55, .ref q56, .int 0, .int 4, .int 0])), (q42, .inr (5, [.ref q63, .ref q64])), (q53, .inr (5, [.ref q59, .ref q60])), (q63, .inl (g.2 0, 384, .inl f65)), (q59, .inl (g.2 0, 384, .inl f65)), (q64, .inl (g.2 0, 40, .inl f66)), (q60, .inl (g.2 0, 40, .inl f66)), (q43, .inr (9, [.ref q77, .ref q78, .int 1, .int 0])), (q54, .inr (9, [.ref q71, .ref q72, .int 1, .int 0])), (q77, .inl (g.2 0, 10, .inl f65)), (q71, .inl (g.2 0, 10, .inl f65)), (q78, .inl (g.2 0, 10, .inl f79)), (q72, .inl (g.2 0, 10, .inl f79)), (q44, .inl (g.2 0, 60, .inl f65)), (q55, .inl (g.2 0, 60, .inl f65)), (q56, .inl (g.2 0, 20, .inl f80)), (q32, .inr (8, [.ref q42, .ref q43, .ref q44, .ref q45, .int 0, .int 4, .int 0])), (q45, .inl (g.2 0, 20, .inl (upd (upd (upd (upd f80 5 x2) 6 x3) 7 x4) 8 x5))), (q25, .inr (10, [.ref q29, .int 1, .int 1])), (q1, .inr (11, [.ref q25, w15, w16, w17, w18, w19, w20, w21, .int 0, .int 0, w24]))] H := hP
  have hD : va_D A [(q29, .inl (g.2 3, 10, .inr (.inr (.inr (.inr f30))))), (q34, .inr (8, [.ref q53, .ref q54, .ref q55, .ref q56, .int 0, .int 4, .int 0])), (q42, .inr (5, [.ref q63, .ref q64])), (q53, .inr (5, [.ref q59, .ref q60])), (q63, .inl (g.2 0, 384, .inl f65)), (q59, .inl (g.2 0, 384, .inl f65)), (q64, .inl (g.2 0, 40, .inl f66)), (q60, .inl (g.2 0, 40, .inl f66)), (q43, .inr (9, [.ref q77, .ref q78, .int 1, .int 0])), (q54, .inr (9, [.ref q71, .ref q72, .int 1, .int 0])), (q77, .inl (g.2 0, 10, .inl f65)), (q71, .inl (g.2 0, 10, .inl f65)), (q78, .inl (g.2 0, 10, .inl f79)), (q72, .inl (g.2 0, 10, .inl f79)), (q44, .inl (g.2 0, 60, .inl f65)), (q55, .inl (g.2 0, 60, .inl f65)), (q56, .inl (g.2 0, 20, .inl f80)), (q32, .inr (8, [.ref q42, .ref q43, .ref q44, .ref q45, .int 0, .int 4, .int 0])), (q45, .inl (g.2 0, 20, .inl (upd (upd (upd (upd f80 5 x2) 6 x3) 7 x4) 8 x5))), (q25, .inr (10, [.ref q29, .int 1, .int 1])), (q1, .inr (11, [.ref q25, w15, w16, w17, w18, w19, w20, w21, .int 0, .int 0, w24]))] := hD
  refine lv_aload hx hb dX9_setEnvelope_62 (lv_at hl 0 rfl) ?_
  refine lv_iload_n hx hb dX9_setEnvelope_64 rfl (lv_at hl 2 rfl) ?_
  refine g_i (wr := [(q29, .inl (g.2 3, 10, .inr (.inr (.inr (.inr f30))))), (q34, .inr (8, [.ref q53, .ref q54, .ref q55, .ref q56, .int 0, .int 4, .int 0])), (q42, .inr (5, [.ref q63, .ref q64])), (q53, .inr (5, [.ref q59, .ref q60])), (q63, .inl (g.2 0, 384, .inl f65)), (q59, .inl (g.2 0, 384, .inl f65)), (q64, .inl (g.2 0, 40, .inl f66)), (q60, .inl (g.2 0, 40, .inl f66)), (q43, .inr (9, [.ref q77, .ref q78, .int 1, .int 0])), (q54, .inr (9, [.ref q71, .ref q72, .int 1, .int 0])), (q77, .inl (g.2 0, 10, .inl f65)), (q71, .inl (g.2 0, 10, .inl f65)), (q78, .inl (g.2 0, 10, .inl f79)), (q72, .inl (g.2 0, 10, .inl f79)), (q44, .inl (g.2 0, 60, .inl f65)), (q55, .inl (g.2 0, 60, .inl f65)), (q56, .inl (g.2 0, 20, .inl f80)), (q25, .inr (10, [.ref q29, .int 1, .int 1])), (q1, .inr (11, [.ref q25, w15, w16, w17, w18, w19, w20, w21, .int 0, .int 0, w24]))]) (rV (rest := []) hx hb hml hown hE hP hD 17 rfl rfl (c1962_X6_countSameEnvelopes l g q32 q45 x2 x3 x4 x5 (.ref q42) (.ref q43) (.ref q44) (.int 0) (.int 4) (.int 0) (upd (upd (upd (upd f80 5 x2) 6 x3) 7 x4) 8 x5) (((pk_un (by decide)).trans ((pk_un (by decide)).trans ((pk_un (by decide)).trans pk_us)))) (((pk_un (by decide)).trans ((pk_un (by decide)).trans ((pk_un (by decide)).trans ((pk_un (by decide)).trans hf81))))) (((pk_un (by decide)).trans ((pk_un (by decide)).trans pk_us))) (((pk_un (by decide)).trans ((pk_un (by decide)).trans ((pk_un (by decide)).trans ((pk_un (by decide)).trans hf82))))) (((pk_un (by decide)).trans pk_us)) (((pk_un (by decide)).trans ((pk_un (by decide)).trans ((pk_un (by decide)).trans ((pk_un (by decide)).trans hf83))))) (pk_us) (((pk_un (by decide)).trans ((pk_un (by decide)).trans ((pk_un (by decide)).trans ((pk_un (by decide)).trans hf84))))) (((pk_un (by decide)).trans ((pk_un (by decide)).trans ((pk_un (by decide)).trans ((pk_un (by decide)).trans hf85))))) (((pk_un (by decide)).trans ((pk_un (by decide)).trans ((pk_un (by decide)).trans ((pk_un (by decide)).trans hf86))))) (((pk_un (by decide)).trans ((pk_un (by decide)).trans ((pk_un (by decide)).trans ((pk_un (by decide)).trans hf87))))) (((pk_un (by decide)).trans ((pk_un (by decide)).trans ((pk_un (by decide)).trans ((pk_un (by decide)).trans hf88))))) (((pk_un (by decide)).trans ((pk_un (by decide)).trans ((pk_un (by decide)).trans ((pk_un (by decide)).trans hf89))))) (((pk_un (by decide)).trans ((pk_un (by decide)).trans ((pk_un (by decide)).trans ((pk_un (by decide)).trans hf90))))) (((pk_un (by decide)).trans ((pk_un (by decide)).trans ((pk_un (by decide)).trans ((pk_un (by decide)).trans hf91))))) (((pk_un (by decide)).trans ((pk_un (by decide)).trans ((pk_un (by decide)).trans ((pk_un (by decide)).trans hf92))))) h93 h94 h95 H.size) (kV_X6_countSameEnvelopes hE (e995 hE) rfl rfl ⟨(Nat.le_of_ble_eq_true rfl), (Nat.le_of_ble_eq_true rfl)⟩) [18, 17] rfl (by decide) rfl hl.1 rfl (lv_room (Nat.le_of_ble_eq_true rfl)) dX9_setEnvelope_65 ⟨(Nat.le_of_ble_eq_true rfl), (Nat.le_of_ble_eq_true rfl)⟩) hP hD hS hA [18, 17] [0, 1, 2, 3, 4, 5, 6, 7, 8, 9, 10, 11, 12, 13, 14, 15, 16, 19, 20] rfl rfl (by decide) (by decide) (fun u9 H locs hP hD hS => ?_)
  have hP : va_P g.1 vwCl [(q29, .inl (g.2 3, 10, .inr (.inr (.inr (.inr f30))))), (q34, .inr (8, [.ref q53, .ref q54, .ref q55, .ref q56, .int 0, .int 4, .int 0])), (q42, .inr (5, [.ref q63, .ref q64])), (q53, .inr (5, [.ref q59, .ref q60])), (q63, .inl (g.2 0, 384, .inl f65)), (q59, .inl (g.2 0, 384, .inl f65)), (q64, .inl (g.2 0, 40, .inl f66)), (q60, .inl (g.2 0, 40, .inl f66)), (q43, .inr (9, [.ref q77, .ref q78, .int 1, .int 0])), (q54, .inr (9, [.ref q71, .ref q72, .int 1, .int 0])), (q77, .inl (g.2 0, 10, .inl f65)), (q71, .inl (g.2 0, 10, .inl f65)), (q78, .inl (g.2 0, 10, .inl f79)), (q72, .inl (g.2 0, 10, .inl f79)), (q44, .inl (g.2 0, 60, .inl f65)), (q55, .inl (g.2 0, 60, .inl f65)), (q56, .inl (g.2 0, 20, .inl f80)), (q25, .inr (10, [.ref q29, .int 1, .int 1])), (q1, .inr (11, [.ref q25, w15, w16, w17, w18, w19, w20, w21, .int 0, .int 0, w24])), (q45, .inl (g.2 0, 20, .inl (upd (upd (upd (upd f80 5 x2) 6 x3) 7 x4) 8 x5))), (q32, .inr (8, [.ref q42, .ref q43, .ref q44, .ref q45, .int 0, .int 4, .int 0]))] H := hP
  have hD : va_D A [(q29, .inl (g.2 3, 10, .inr (.inr (.inr (.inr f30))))), (q34, .inr (8, [.ref q53, .ref q54, .ref q55, .ref q56, .int 0, .int 4, .int 0])), (q42, .inr (5, [.ref q63, .ref q64])), (q53, .inr (5, [.ref q59, .ref q60])), (q63, .inl (g.2 0, 384, .inl f65)), (q59, .inl (g.2 0, 384, .inl f65)), (q64, .inl (g.2 0, 40, .inl f66)), (q60, .inl (g.2 0, 40, .inl f66)), (q43, .inr (9, [.ref q77, .ref q78, .int 1, .int 0])), (q54, .inr (9, [.ref q71, .ref q72, .int 1, .int 0])), (q77, .inl (g.2 0, 10, .inl f65)), (q71, .inl (g.2 0, 10, .inl f65)), (q78, .inl (g.2 0, 10, .inl f79)), (q72, .inl (g.2 0, 10, .inl f79)), (q44, .inl (g.2 0, 60, .inl f65)), (q55, .inl (g.2 0, 60, .inl f65)), (q56, .inl (g.2 0, 20, .inl f80)), (q25, .inr (10, [.ref q29, .int 1, .int 1])), (q1, .inr (11, [.ref q25, w15, w16, w17, w18, w19, w20, w21, .int 0, .int 0, w24])), (q45, .inl (g.2 0, 20, .inl (upd (upd (upd (upd f80 5 x2) 6 x3) 7 x4) 8 x5))), (q32, .inr (8, [.ref q42, .ref q43, .ref q44, .ref q45, .int 0, .int 4, .int 0]))] := hD
  exact x_zret hx hb hr rfl rfl hlocks hP hD hS hAe hsz (Nat.le_of_ble_eq_true rfl) (Nat.le_of_ble_eq_true rfl) (fun _ => 0) [0, 1, 2, 3, 4, 5, 6, 7, 8, 9, 10, 11, 12, 13, 14, 15, 16, 17, 18, 19, 20] (by decide) rfl dX9_setEnvelope_68

set_option maxHeartbeats 4000000 in
set_option maxRecDepth 100000 in
theorem c1964_L_setEnvelope (l : Launch) (g : gG) (hlx : l.stackTraces = false) (q1 q6 q25 q29 q32 q34 q42 q43 q44 q45 q53 q54 q55 q56 q59 q60 q63 q64 q71 q72 q77 q78 : Nat) (x2 x3 x4 x5 : Int32) (w15 w16 w17 w18 w19 w20 w21 w22 w23 w24 w39 w40 w41 w75 w76 : Value) (f30 : Nat → Option Nat) (f65 : Nat → Int32) (f66 : Nat → Int32) (f79 : Nat → Int32) (f80 : Nat → Int32) (f97 : Nat → Int64) (hf31 : f30 1 = some q32) (hf33 : f30 0 = some q34) (hf81 : f80 0 = 0) (hf82 : f80 1 = 0) (hf83 : f80 2 = 100) (hf84 : f80 3 = 0) (hf85 : f80 10 = 0) (hf86 : f80 11 = 0) (hf87 : f80 12 = 100) (hf88 : f80 13 = 0) (hf89 : f80 15 = 0) (hf90 : f80 16 = 0) (hf91 : f80 17 = 100) (hf92 : f80 18 = 0) (h7 : (0 : Int32) ≤ x2) (h8 : x2 ≤ 5000) (h9 : (0 : Int32) ≤ x3) (h10 : x3 ≤ 5000) (h11 : (0 : Int32) ≤ x4) (h12 : x4 ≤ 100) (h13 : (0 : Int32) ≤ x5) (h93 : x5 ≤ 5000) (h94 : x2 = 0) (h95 : x3 = 0) (h96 : ¬ x4 = 100) (sz : Nat) : Met l yL_setEnvelope [Cond.codeWith yL_setEnvelope cL_setEnvelope 8 (some .int) [(0, 16, 19, 13), (0, 16, 23, 15)]] ({ frames := 6, cells := 0, slots := 0, locals := 174 } : Room) (va_Pc [.ref q1, .int 1, .int x2, .int x3, .int x4, .int x5, .ref q6] (PZ g sz [(q6, .inl (g.2 1, 1, .inr (.inl f97))), (q45, .inl (g.2 0, 20, .inl f80)), (q56, .inl (g.2 0, 20, .inl f80)), (q44, .inl (g.2 0, 60, .inl f65)), (q55, .inl (g.2 0, 60, .inl f65)), (q78, .inl (g.2 0, 10, .inl f79)), (q72, .inl (g.2 0, 10, .inl f79)), (q77, .inl (g.2 0, 10, .inl f65)), (q71, .inl (g.2 0, 10, .inl f65)), (q43, .inr (9, [.ref q77, .ref q78, w75, w76])), (q54, .inr (9, [.ref q71, .ref q72, .int 1, .int 0])), (q64, .inl (g.2 0, 40, .inl f66)), (q60, .inl (g.2 0, 40, .inl f66)), (q63, .inl (g.2 0, 384, .inl f65)), (q59, .inl (g.2 0, 384, .inl f65)), (q42, .inr (5, [.ref q63, .ref q64])), (q53, .inr (5, [.ref q59, .ref q60])), (q34, .inr (8, [.ref q53, .ref q54, .ref q55, .ref q56, .int 0, .int 4, .int 0])), (q32, .inr (8, [.ref q42, .ref q43, .ref q44, .ref q45, w39, w40, w41])), (q29, .inl (g.2 3, 10, .inr (.inr (.inr (.inr f30))))), (q25, .inr (10, [.ref q29, .int 0, .int 0])), (q1, .inr (11, [.ref q25, w15, w16, w17, w18, w19, w20, w21, w22, w23, w24]))])) (QI g [(q6, .inl (g.2 1, 1, .inr (.inl f97))), (q45, .inl (g.2 0, 20, .inl f80)), (q56, .inl (g.2 0, 20, .inl f80)), (q44, .inl (g.2 0, 60, .inl f65)), (q55, .inl (g.2 0, 60, .inl f65)), (q78, .inl (g.2 0, 10, .inl f79)), (q72, .inl (g.2 0, 10, .inl f79)), (q77, .inl (g.2 0, 10, .inl f65)), (q71, .inl (g.2 0, 10, .inl f65)), (q43, .inr (9, [.ref q77, .ref q78, w75, w76])), (q54, .inr (9, [.ref q71, .ref q72, .int 1, .int 0])), (q64, .inl (g.2 0, 40, .inl f66)), (q60, .inl (g.2 0, 40, .inl f66)), (q63, .inl (g.2 0, 384, .inl f65)), (q59, .inl (g.2 0, 384, .inl f65)), (q42, .inr (5, [.ref q63, .ref q64])), (q53, .inr (5, [.ref q59, .ref q60])), (q34, .inr (8, [.ref q53, .ref q54, .ref q55, .ref q56, .int 0, .int 4, .int 0])), (q32, .inr (8, [.ref q42, .ref q43, .ref q44, .ref q45, w39, w40, w41])), (q29, .inl (g.2 3, 10, .inr (.inr (.inr (.inr f30))))), (q25, .inr (10, [.ref q29, .int 0, .int 0])), (q1, .inr (11, [.ref q25, w15, w16, w17, w18, w19, w20, w21, w22, w23, w24]))] sz 0 (fun _ => [(q6, .inl (g.2 1, 1, .inr (.inl (vp_updL f97 0 1))))])) 0 0 (va_A [(q6, .inl (g.2 1, 1, .inr (.inl f97))), (q45, .inl (g.2 0, 20, .inl f80)), (q56, .inl (g.2 0, 20, .inl f80)), (q44, .inl (g.2 0, 60, .inl f65)), (q55, .inl (g.2 0, 60, .inl f65)), (q78, .inl (g.2 0, 10, .inl f79)), (q72, .inl (g.2 0, 10, .inl f79)), (q77, .inl (g.2 0, 10, .inl f65)), (q71, .inl (g.2 0, 10, .inl f65)), (q43, .inr (9, [.ref q77, .ref q78, w75, w76])), (q54, .inr (9, [.ref q71, .ref q72, .int 1, .int 0])), (q64, .inl (g.2 0, 40, .inl f66)), (q60, .inl (g.2 0, 40, .inl f66)), (q63, .inl (g.2 0, 384, .inl f65)), (q59, .inl (g.2 0, 384, .inl f65)), (q42, .inr (5, [.ref q63, .ref q64])), (q53, .inr (5, [.ref q59, .ref q60])), (q34, .inr (8, [.ref q53, .ref q54, .ref q55, .ref q56, .int 0, .int 4, .int 0])), (q32, .inr (8, [.ref q42, .ref q43, .ref q44, .ref q45, w39, w40, w41])), (q29, .inl (g.2 3, 10, .inr (.inr (.inr (.inr f30))))), (q25, .inr (10, [.ref q29, .int 0, .int 0])), (q1, .inr (11, [.ref q25, w15, w16, w17, w18, w19, w20, w21, w22, w23, w24]))] sz) := by
  refine ofH (by decide) (Nat.le_of_ble_eq_true rfl) rfl ?_
  intro p e s m args below meth c A ls hAe hsz hx hb hml hr hlocks hin hown hE hP hD hA hS hl htb hz
  have hown : s.vm.findClass RL = some m.cls := hown
  refine lv_aload hx hb dL_setEnvelope_0 (lv_at hl 6 rfl) ?_
  refine lv_iconst (v := 0) hx hb dL_setEnvelope_2 (by decide) ?_
  refine lv_aload_n hx hb dL_setEnvelope_3 rfl (lv_at hl 0 rfl) ?_
  refine lv_iload_n hx hb dL_setEnvelope_4 rfl (lv_at hl 1 rfl) ?_
  refine lv_iload_n hx hb dL_setEnvelope_5 rfl (lv_at hl 2 rfl) ?_
  refine lv_iload_n hx hb dL_setEnvelope_6 rfl (lv_at hl 3 rfl) ?_
  refine lv_iload hx hb dL_setEnvelope_7 (lv_at hl 4 rfl) ?_
  refine lv_iload hx hb dL_setEnvelope_9 (lv_at hl 5 rfl) ?_
  refine g_i (wr := [(q6, .inl (g.2 1, 1, .inr (.inl f97)))]) (rV (rest := [.int 0, .ref q6]) hx hb hml hown hE hP hD 21 rfl rfl (c1963_X9_setEnvelope l g q1 q25 q29 q32 q34 q42 q43 q44 q45 q53 q54 q55 q56 q59 q60 q63 q64 q71 q72 q77 q78 x2 x3 x4 x5 w15 w16 w17 w18 w19 w20 w21 w22 w23 w24 w39 w40 w41 w75 w76 f30 f65 f66 f79 f80 (hf31) (hf33) (hf81) (hf82) (hf83) (hf84) (hf85) (hf86) (hf87) (hf88) (hf89) (hf90) (hf91) (hf92) h7 h8 h9 h10 h11 h12 h13 h93 h94 h95 h96 s.heap.size) (kV_X9_setEnvelope hE (e987 hE) rfl rfl ⟨(Nat.le_of_ble_eq_true rfl), (Nat.le_of_ble_eq_true rfl)⟩) [1, 2, 3, 4, 5, 6, 7, 8, 9, 10, 11, 12, 13, 14, 15, 16, 17, 18, 19, 20, 21] rfl (by decide) rfl hl.1 rfl (lv_room (Nat.le_of_ble_eq_true rfl)) dL_setEnvelope_11 ⟨(Nat.le_of_ble_eq_true rfl), (Nat.le_of_ble_eq_true rfl)⟩) hP hD hS hA [1, 2, 3, 4, 5, 6, 7, 8, 9, 10, 11, 12, 13, 14, 15, 16, 17, 18, 19, 20, 21] [0] rfl rfl (by decide) (by decide) (fun u1 H locs hP hD hS => ?_)
  have hP : va_P g.1 vwCl [(q6, .inl (g.2 1, 1, .inr (.inl f97))), (q29, .inl (g.2 3, 10, .inr (.inr (.inr (.inr f30))))), (q34, .inr (8, [.ref q53, .ref q54, .ref q55, .ref q56, .int 0, .int 4, .int 0])), (q42, .inr (5, [.ref q63, .ref q64])), (q53, .inr (5, [.ref q59, .ref q60])), (q63, .inl (g.2 0, 384, .inl f65)), (q59, .inl (g.2 0, 384, .inl f65)), (q64, .inl (g.2 0, 40, .inl f66)), (q60, .inl (g.2 0, 40, .inl f66)), (q43, .inr (9, [.ref q77, .ref q78, .int 1, .int 0])), (q54, .inr (9, [.ref q71, .ref q72, .int 1, .int 0])), (q77, .inl (g.2 0, 10, .inl f65)), (q71, .inl (g.2 0, 10, .inl f65)), (q78, .inl (g.2 0, 10, .inl f79)), (q72, .inl (g.2 0, 10, .inl f79)), (q44, .inl (g.2 0, 60, .inl f65)), (q55, .inl (g.2 0, 60, .inl f65)), (q56, .inl (g.2 0, 20, .inl f80)), (q25, .inr (10, [.ref q29, .int 1, .int 1])), (q1, .inr (11, [.ref q25, w15, w16, w17, w18, w19, w20, w21, .int 0, .int 0, w24])), (q45, .inl (g.2 0, 20, .inl (upd (upd (upd (upd f80 5 x2) 6 x3) 7 x4) 8 x5))), (q32, .inr (8, [.ref q42, .ref q43, .ref q44, .ref q45, .int 0, .int 4, .int 0]))] H := hP
  have hD : va_D A [(q6, .inl (g.2 1, 1, .inr (.inl f97))), (q29, .inl (g.2 3, 10, .inr (.inr (.inr (.inr f30))))), (q34, .inr (8, [.ref q53, .ref q54, .ref q55, .ref q56, .int 0, .int 4, .int 0])), (q42, .inr (5, [.ref q63, .ref q64])), (q53, .inr (5, [.ref q59, .ref q60])), (q63, .inl (g.2 0, 384, .inl f65)), (q59, .inl (g.2 0, 384, .inl f65)), (q64, .inl (g.2 0, 40, .inl f66)), (q60, .inl (g.2 0, 40, .inl f66)), (q43, .inr (9, [.ref q77, .ref q78, .int 1, .int 0])), (q54, .inr (9, [.ref q71, .ref q72, .int 1, .int 0])), (q77, .inl (g.2 0, 10, .inl f65)), (q71, .inl (g.2 0, 10, .inl f65)), (q78, .inl (g.2 0, 10, .inl f79)), (q72, .inl (g.2 0, 10, .inl f79)), (q44, .inl (g.2 0, 60, .inl f65)), (q55, .inl (g.2 0, 60, .inl f65)), (q56, .inl (g.2 0, 20, .inl f80)), (q25, .inr (10, [.ref q29, .int 1, .int 1])), (q1, .inr (11, [.ref q25, w15, w16, w17, w18, w19, w20, w21, .int 0, .int 0, w24])), (q45, .inl (g.2 0, 20, .inl (upd (upd (upd (upd f80 5 x2) 6 x3) 7 x4) 8 x5))), (q32, .inr (8, [.ref q42, .ref q43, .ref q44, .ref q45, .int 0, .int 4, .int 0]))] := hD
  refine lv_i2l (v := 1) hx hb dL_setEnvelope_14 (by decide) ?_
  refine x_last (ws' := [(q6, .inl (g.2 1, 1, .inr (.inl (vp_updL f97 0 1)))), (q29, .inl (g.2 3, 10, .inr (.inr (.inr (.inr f30))))), (q34, .inr (8, [.ref q53, .ref q54, .ref q55, .ref q56, .int 0, .int 4, .int 0])), (q42, .inr (5, [.ref q63, .ref q64])), (q53, .inr (5, [.ref q59, .ref q60])), (q63, .inl (g.2 0, 384, .inl f65)), (q59, .inl (g.2 0, 384, .inl f65)), (q64, .inl (g.2 0, 40, .inl f66)), (q60, .inl (g.2 0, 40, .inl f66)), (q43, .inr (9, [.ref q77, .ref q78, .int 1, .int 0])), (q54, .inr (9, [.ref q71, .ref q72, .int 1, .int 0])), (q77, .inl (g.2 0, 10, .inl f65)), (q71, .inl (g.2 0, 10, .inl f65)), (q78, .inl (g.2 0, 10, .inl f79)), (q72, .inl (g.2 0, 10, .inl f79)), (q44, .inl (g.2 0, 60, .inl f65)), (q55, .inl (g.2 0, 60, .inl f65)), (q56, .inl (g.2 0, 20, .inl f80)), (q25, .inr (10, [.ref q29, .int 1, .int 1])), (q1, .inr (11, [.ref q25, w15, w16, w17, w18, w19, w20, w21, .int 0, .int 0, w24])), (q45, .inl (g.2 0, 20, .inl (upd (upd (upd (upd f80 5 x2) 6 x3) 7 x4) 8 x5))), (q32, .inr (8, [.ref q42, .ref q43, .ref q44, .ref q45, .int 0, .int 4, .int 0]))]) hx hb hE hP hD hS 0 rfl 0 (x_in (by decide)) (by decide) dL_setEnvelope_15 rfl (fun H locs hP hD hS => ?_)
  refine lv_goto (tgt := 27) hx hb dL_setEnvelope_16 (by decide) ?_
  refine lv_iconst (v := 0) hx hb dL_setEnvelope_27 (by decide) ?_
  exact x_zret hx hb hr rfl rfl hlocks hP hD hS hAe hsz (Nat.le_of_ble_eq_true rfl) (Nat.le_of_ble_eq_true rfl) (fun _ => 0) [0] (by decide) rfl dL_setEnvelope_28

set_option maxHeartbeats 4000000 in
set_option maxRecDepth 100000 in
theorem c1965_X10_setEnvelope (l : Launch) (g : gG) (q1 q51 q52 q53 : Nat) (x2 x3 x4 x5 : Int32) (w15 w17 w20 w21 w22 w23 w24 w25 w26 w27 w28 w29 w30 w31 w32 w33 w34 w35 w36 w37 w38 w39 w40 w41 w42 w43 w44 w45 w46 w47 w48 w49 w50 : Value) (f54 : Nat → Int32) (f55 : Nat → Int32) (hf56 : f54 474 = 0) (hf58 : f54 475 = 0) (hf60 : f54 476 = 100) (hf62 : f54 477 = 0) (hf63 : f54 484 = 0) (hf64 : f54 485 = 0) (hf65 : f54 486 = 100) (hf66 : f54 487 = 0) (hf67 : f54 489 = 0) (hf68 : f54 490 = 0) (hf69 : f54 491 = 100) (hf70 : f54 492 = 0) (h6 : (0 : Int32) ≤ x2) (h7 : x2 ≤ 5000) (h8 : (0 : Int32) ≤ x3) (h9 : x3 ≤ 5000) (h10 : (0 : Int32) ≤ x4) (h11 : x4 ≤ 100) (h12 : (0 : Int32) ≤ x5) (h13 : x5 ≤ 5000) (h57 : (0 : Int32) = x2) (h59 : (0 : Int32) = x3) (h61 : ¬ (100 : Int32) = x4) (sz : Nat) : Met l yX10_setEnvelope [Cond.code yX10_setEnvelope cX10_setEnvelope 12 (some .int)] ({ frames := 2, cells := 0, slots := 0, locals := 42 } : Room) (va_Pc [.ref q1, .int 1, .int x2, .int x3, .int x4, .int x5] (PX g sz [(q53, .inl (g.2 0, 3976, .inl f55)), (q52, .inl (g.2 0, 497, .inl f55)), (q51, .inl (g.2 0, 497, .inl f54)), (q1, .inr (12, [.ref q51, w15, .ref q52, w17, .ref q53, .int 0, w20, w21, w22, w23, w24, w25, w26, w27, w28, w29, w30, w31, w32, w33, w34, w35, w36, w37, w38, w39, w40, w41, w42, w43, w44, w45, w46, w47, w48, w49, w50]))])) (QI g [(q53, .inl (g.2 0, 3976, .inl f55)), (q52, .inl (g.2 0, 497, .inl f55)), (q51, .inl (g.2 0, 497, .inl f54)), (q1, .inr (12, [.ref q51, w15, .ref q52, w17, .ref q53, .int 0, w20, w21, w22, w23, w24, w25, w26, w27, w28, w29, w30, w31, w32, w33, w34, w35, w36, w37, w38, w39, w40, w41, w42, w43, w44, w45, w46, w47, w48, w49, w50]))] sz 1 (fun _ => [(q1, .inr (12, [.ref q51, w15, .ref q52, w17, .ref q53, .int 1, .int 0, w21, w22, w23, w24, w25, w26, w27, w28, w29, w30, w31, w32, w33, w34, w35, w36, w37, w38, w39, w40, w41, w42, w43, w44, w45, w46, w47, w48, w49, w50]))])) 0 0 (va_A [(q53, .inl (g.2 0, 3976, .inl f55)), (q52, .inl (g.2 0, 497, .inl f55)), (q51, .inl (g.2 0, 497, .inl f54)), (q1, .inr (12, [.ref q51, w15, .ref q52, w17, .ref q53, .int 0, w20, w21, w22, w23, w24, w25, w26, w27, w28, w29, w30, w31, w32, w33, w34, w35, w36, w37, w38, w39, w40, w41, w42, w43, w44, w45, w46, w47, w48, w49, w50]))] sz) := by
  refine ofN (by decide) (Nat.le_of_ble_eq_true rfl) rfl ?_
  intro p e s m args below meth c A ls hAe hsz hx hb hml hr hlocks hin hown hE hP hD hA hS hl
  have hown : s.vm.findClass RX10 = some m.cls := hown
  refine lv_iload_n hx hb dX10_setEnvelope_0 rfl (lv_at hl 2 rfl) ?_
  refine lv_iconst (v := 0) hx hb dX10_setEnvelope_1 (by decide) ?_
  refine lv_sipush (v := 5000) hx hb dX10_setEnvelope_2 (by decide) ?_
  refine g0_i (rS (rest := []) hx hb hml hown hE hP hD (c1843_X10_in l g x2 h6 h7 s.heap.size) (kS_X10_in hE (e1431 hE) rfl rfl ⟨(Nat.le_of_ble_eq_true rfl), (Nat.le_of_ble_eq_true rfl)⟩) [] rfl (by decide) rfl hl.1 rfl (lv_room (Nat.le_of_ble_eq_true rfl)) dX10_setEnvelope_5 ⟨(Nat.le_of_ble_eq_true rfl), (Nat.le_of_ble_eq_true rfl)⟩) hP hD hS hA (fun u9 H locs hP hS => ?_)
  refine lv_if_eq (tgt := 49) hx hb dX10_setEnvelope_8 (by decide) (fun h => absurd h (by decide)) (fun _ => ?_)
  refine lv_iload_n hx hb dX10_setEnvelope_11 rfl (lv_at hl 3 rfl) ?_
  refine lv_iconst (v := 0) hx hb dX10_setEnvelope_12 (by decide) ?_
  refine lv_sipush (v := 5000) hx hb dX10_setEnvelope_13 (by decide) ?_
  refine g0_i (rS (rest := []) hx hb hml hown hE hP hD (c1843_X10_in l g x3 h8 h9 H.size) (kS_X10_in hE (e1431 hE) rfl rfl ⟨(Nat.le_of_ble_eq_true rfl), (Nat.le_of_ble_eq_true rfl)⟩) [] rfl (by decide) rfl hl.1 rfl (lv_room (Nat.le_of_ble_eq_true rfl)) dX10_setEnvelope_16 ⟨(Nat.le_of_ble_eq_true rfl), (Nat.le_of_ble_eq_true rfl)⟩) hP hD hS hA (fun u9 H locs hP hS => ?_)
  refine lv_if_eq (tgt := 49) hx hb dX10_setEnvelope_19 (by decide) (fun h => absurd h (by decide)) (fun _ => ?_)
  refine lv_iload hx hb dX10_setEnvelope_22 (lv_at hl 4 rfl) ?_
  refine lv_iconst (v := 0) hx hb dX10_setEnvelope_24 (by decide) ?_
  refine lv_bipush (v := 100) hx hb dX10_setEnvelope_25 (by decide) ?_
  refine g0_i (rS (rest := []) hx hb hml hown hE hP hD (c1849_X10_in l g x4 h10 h11 H.size) (kS_X10_in hE (e1431 hE) rfl rfl ⟨(Nat.le_of_ble_eq_true rfl), (Nat.le_of_ble_eq_true rfl)⟩) [] rfl (by decide) rfl hl.1 rfl (lv_room (Nat.le_of_ble_eq_true rfl)) dX10_setEnvelope_27 ⟨(Nat.le_of_ble_eq_true rfl), (Nat.le_of_ble_eq_true rfl)⟩) hP hD hS hA (fun u9 H locs hP hS => ?_)
  refine lv_if_eq (tgt := 49) hx hb dX10_setEnvelope_30 (by decide) (fun h => absurd h (by decide)) (fun _ => ?_)
  refine lv_iload hx hb dX10_setEnvelope_33 (lv_at hl 5 rfl) ?_
  refine lv_iconst (v := 0) hx hb dX10_setEnvelope_35 (by decide) ?_
  refine lv_sipush (v := 5000) hx hb dX10_setEnvelope_36 (by decide) ?_
  refine g0_i (rS (rest := []) hx hb hml hown hE hP hD (c1843_X10_in l g x5 h12 h13 H.size) (kS_X10_in hE (e1431 hE) rfl rfl ⟨(Nat.le_of_ble_eq_true rfl), (Nat.le_of_ble_eq_true rfl)⟩) [] rfl (by decide) rfl hl.1 rfl (lv_room (Nat.le_of_ble_eq_true rfl)) dX10_setEnvelope_39 ⟨(Nat.le_of_ble_eq_true rfl), (Nat.le_of_ble_eq_true rfl)⟩) hP hD hS hA (fun u9 H locs hP hS => ?_)
  refine lv_if_eq (tgt := 49) hx hb dX10_setEnvelope_42 (by decide) (fun h => absurd h (by decide)) (fun _ => ?_)
  refine lv_iconst (v := 1) hx hb dX10_setEnvelope_45 (by decide) ?_
  refine lv_goto (tgt := 50) hx hb dX10_setEnvelope_46 (by decide) ?_
  refine lv_istore (lv' := [(6, .int 1), (0, .ref q1), (1, .int 1), (2, .int x2), (3, .int x3), (4, .int x4), (5, .int x5)]) hx hb dX10_setEnvelope_50 hl (by decide) rfl (fun ls hl => ?_)
  refine lv_aload_n hx hb dX10_setEnvelope_52 rfl (lv_at hl 1 rfl) ?_
  refine lv_iload_n hx hb dX10_setEnvelope_53 rfl (lv_at hl 2 rfl) ?_
  refine g0_i (rS (rest := [.ref q1]) hx hb hml hown hE hP hD (c1857_X10_isInstrument l g 1 (by decide) (by decide) H.size) (kS_X10_isInstrument hE (e1645 hE) rfl rfl ⟨(Nat.le_of_ble_eq_true rfl), (Nat.le_of_ble_eq_true rfl)⟩) [] rfl (by decide) rfl hl.1 rfl (lv_room (Nat.le_of_ble_eq_true rfl)) dX10_setEnvelope_54 ⟨(Nat.le_of_ble_eq_true rfl), (Nat.le_of_ble_eq_true rfl)⟩) hP hD hS hA (fun u9 H locs hP hS => ?_)
  refine lv_if_ne (tgt := 64) hx hb dX10_setEnvelope_57 (by decide) (fun _ => ?_) (fun h => absurd h (by decide))
  refine lv_iload hx hb dX10_setEnvelope_64 (lv_at hl 0 rfl) ?_
  refine lv_if_ne (tgt := 73) hx hb dX10_setEnvelope_66 (by decide) (fun _ => ?_) (fun h => absurd h (by decide))
  refine lv_iconst (v := 0) hx hb dX10_setEnvelope_73 (by decide) ?_
  refine pf_RX10_86 (ws' := [(q53, .inl (g.2 0, 3976, .inl f55)), (q52, .inl (g.2 0, 497, .inl f55)), (q51, .inl (g.2 0, 497, .inl f54)), (q1, .inr (12, [.ref q51, w15, .ref q52, w17, .ref q53, .int 0, .int 0, w21, w22, w23, w24, w25, w26, w27, w28, w29, w30, w31, w32, w33, w34, w35, w36, w37, w38, w39, w40, w41, w42, w43, w44, w45, w46, w47, w48, w49, w50]))]) hx hb hown hE hP hD hS 3 rfl rfl rfl (Nat.le_of_ble_eq_true rfl) dX10_setEnvelope_74 rfl (fun H locs hP hD hS => ?_)
  refine lv_aload_n hx hb dX10_setEnvelope_77 rfl (lv_at hl 1 rfl) ?_
  refine gf_RX10_86 hx hb hown hE hP 3 rfl rfl dX10_setEnvelope_78 ?_
  refine lv_if_le (tgt := 86) hx hb dX10_setEnvelope_81 (by decide) (fun _ => ?_) (fun h => absurd (by decide) h)
  refine lv_aload_n hx hb dX10_setEnvelope_86 rfl (lv_at hl 1 rfl) ?_
  refine g_v (wr := []) (rV (rest := []) hx hb hml hown hE hP hD 3 rfl rfl (c1714_X10_keepNow l g q1 q51 q52 q53 w15 w17 (.int 0) w21 w22 w23 w24 w25 w26 w27 w28 w29 w30 w31 w32 w33 w34 w35 w36 w37 w38 w39 w40 w41 w42 w43 w44 w45 w46 w47 w48 w49 w50 f54 f55 H.size) (kV_X10_keepNow hE (e1494 hE) rfl rfl ⟨(Nat.le_of_ble_eq_true rfl), (Nat.le_of_ble_eq_true rfl)⟩) [0, 1, 2, 3] rfl (by decide) rfl hl.1 rfl (lv_room (Nat.le_of_ble_eq_true rfl)) dX10_setEnvelope_87 ⟨(Nat.le_of_ble_eq_true rfl), (Nat.le_of_ble_eq_true rfl)⟩) hP hD hS hA [0, 1, 2, 3] [] rfl rfl (by decide) (by decide) (fun u6 H locs hP hD hS => ?_)
  have hP : va_P g.1 vwCl [(q51, .inl (g.2 0, 497, .inl f54)), (q53, .inl (g.2 0, 3976, .inl (cpF 497 (cpF 497 f54 f55) f55))), (q52, .inl (g.2 0, 497, .inl (cpF 497 f54 f55))), (q1, .inr (12, [.ref q51, w15, .ref q52, w17, .ref q53, .int 1, .int 0, w21, w22, w23, w24, w25, w26, w27, w28, w29, w30, w31, w32, w33, w34, w35, w36, w37, w38, w39, w40, w41, w42, w43, w44, w45, w46, w47, w48, w49, w50]))] H := hP
  have hD : va_D A [(q51, .inl (g.2 0, 497, .inl f54)), (q53, .inl (g.2 0, 3976, .inl (cpF 497 (cpF 497 f54 f55) f55))), (q52, .inl (g.2 0, 497, .inl (cpF 497 f54 f55))), (q1, .inr (12, [.ref q51, w15, .ref q52, w17, .ref q53, .int 1, .int 0, w21, w22, w23, w24, w25, w26, w27, w28, w29, w30, w31, w32, w33, w34, w35, w36, w37, w38, w39, w40, w41, w42, w43, w44, w45, w46, w47, w48, w49, w50]))] := hD
  refine lv_sipush (v := 474) hx hb dX10_setEnvelope_90 (by decide) ?_
  refine lv_iconst (v := 5) hx hb dX10_setEnvelope_93 (by decide) ?_
  refine lv_iload_n hx hb dX10_setEnvelope_94 rfl (lv_at hl 2 rfl) ?_
  refine x_imul (v := 5) hx hb dX10_setEnvelope_95 (by decide) ?_
  refine x_iadd (v := 479) hx hb dX10_setEnvelope_96 (by decide) ?_
  refine lv_istore (lv' := [(7, .int 479), (6, .int 1), (0, .ref q1), (1, .int 1), (2, .int x2), (3, .int x3), (4, .int x4), (5, .int x5)]) hx hb dX10_setEnvelope_97 hl (by decide) rfl (fun ls hl => ?_)
  refine lv_aload_n hx hb dX10_setEnvelope_99 rfl (lv_at hl 2 rfl) ?_
  refine gf_RX10_9 hx hb hown hE hP 3 rfl rfl dX10_setEnvelope_100 ?_
  refine lv_iload hx hb dX10_setEnvelope_103 (lv_at hl 0 rfl) ?_
  refine lv_iload_n hx hb dX10_setEnvelope_105 rfl (lv_at hl 4 rfl) ?_
  refine x_iast (ws' := [(q51, .inl (g.2 0, 497, .inl (upd f54 479 x2))), (q53, .inl (g.2 0, 3976, .inl (cpF 497 (cpF 497 f54 f55) f55))), (q52, .inl (g.2 0, 497, .inl (cpF 497 f54 f55))), (q1, .inr (12, [.ref q51, w15, .ref q52, w17, .ref q53, .int 1, .int 0, w21, w22, w23, w24, w25, w26, w27, w28, w29, w30, w31, w32, w33, w34, w35, w36, w37, w38, w39, w40, w41, w42, w43, w44, w45, w46, w47, w48, w49, w50]))]) hx hb hE hP hD hS 0 rfl 479 (x_in (by decide)) (by decide) dX10_setEnvelope_106 rfl (fun H locs hP hD hS => ?_)
  refine lv_aload_n hx hb dX10_setEnvelope_107 rfl (lv_at hl 2 rfl) ?_
  refine gf_RX10_9 hx hb hown hE hP 3 rfl rfl dX10_setEnvelope_108 ?_
  refine lv_iload hx hb dX10_setEnvelope_111 (lv_at hl 0 rfl) ?_
  refine lv_iconst (v := 1) hx hb dX10_setEnvelope_113 (by decide) ?_
  refine x_iadd (v := 480) hx hb dX10_setEnvelope_114 (by decide) ?_
  refine lv_iload_n hx hb dX10_setEnvelope_115 rfl (lv_at hl 5 rfl) ?_
  refine x_iast (ws' := [(q51, .inl (g.2 0, 497, .inl (upd (upd f54 479 x2) 480 x3))), (q53, .inl (g.2 0, 3976, .inl (cpF 497 (cpF 497 f54 f55) f55))), (q52, .inl (g.2 0, 497, .inl (cpF 497 f54 f55))), (q1, .inr (12, [.ref q51, w15, .ref q52, w17, .ref q53, .int 1, .int 0, w21, w22, w23, w24, w25, w26, w27, w28, w29, w30, w31, w32, w33, w34, w35, w36, w37, w38, w39, w40, w41, w42, w43, w44, w45, w46, w47, w48, w49, w50]))]) hx hb hE hP hD hS 0 rfl 480 (x_in (by decide)) (by decide) dX10_setEnvelope_116 rfl (fun H locs hP hD hS => ?_)
  refine lv_aload_n hx hb dX10_setEnvelope_117 rfl (lv_at hl 2 rfl) ?_
  refine gf_RX10_9 hx hb hown hE hP 3 rfl rfl dX10_setEnvelope_118 ?_
  refine lv_iload hx hb dX10_setEnvelope_121 (lv_at hl 0 rfl) ?_
  refine lv_iconst (v := 2) hx hb dX10_setEnvelope_123 (by decide) ?_
  refine x_iadd (v := 481) hx hb dX10_setEnvelope_124 (by decide) ?_
  refine lv_iload hx hb dX10_setEnvelope_125 (lv_at hl 6 rfl) ?_
  refine x_iast (ws' := [(q51, .inl (g.2 0, 497, .inl (upd (upd (upd f54 479 x2) 480 x3) 481 x4))), (q53, .inl (g.2 0, 3976, .inl (cpF 497 (cpF 497 f54 f55) f55))), (q52, .inl (g.2 0, 497, .inl (cpF 497 f54 f55))), (q1, .inr (12, [.ref q51, w15, .ref q52, w17, .ref q53, .int 1, .int 0, w21, w22, w23, w24, w25, w26, w27, w28, w29, w30, w31, w32, w33, w34, w35, w36, w37, w38, w39, w40, w41, w42, w43, w44, w45, w46, w47, w48, w49, w50]))]) hx hb hE hP hD hS 0 rfl 481 (x_in (by decide)) (by decide) dX10_setEnvelope_127 rfl (fun H locs hP hD hS => ?_)
  refine lv_aload_n hx hb dX10_setEnvelope_128 rfl (lv_at hl 2 rfl) ?_
  refine gf_RX10_9 hx hb hown hE hP 3 rfl rfl dX10_setEnvelope_129 ?_
  refine lv_iload hx hb dX10_setEnvelope_132 (lv_at hl 0 rfl) ?_
  refine lv_iconst (v := 3) hx hb dX10_setEnvelope_134 (by decide) ?_
  refine x_iadd (v := 482) hx hb dX10_setEnvelope_135 (by decide) ?_
  refine lv_iload hx hb dX10_setEnvelope_136 (lv_at hl 7 rfl) ?_
  refine x_iast (ws' := [(q51, .inl (g.2 0, 497, .inl (upd (upd (upd (upd f54 479 x2) 480 x3) 481 x4) 482 x5))), (q53, .inl (g.2 0, 3976, .inl (cpF 497 (cpF 497 f54 f55) f55))), (q52, .inl (g.2 0, 497, .inl (cpF 497 f54 f55))), (q1, .inr (12, [.ref q51, w15, .ref q52, w17, .ref q53, .int 1, .int 0, w21, w22, w23, w24, w25, w26, w27, w28, w29, w30, w31, w32, w33, w34, w35, w36, w37, w38, w39, w40, w41, w42, w43, w44, w45, w46, w47, w48, w49, w50]))]) hx hb hE hP hD hS 0 rfl 482 (x_in (by decide)) (by decide) dX10_setEnvelope_138 rfl (fun H locs hP hD hS => ?_)
  refine lv_iconst (v := 0) hx hb dX10_setEnvelope_139 (by decide) ?_
  refine lv_istore (lv' := [(8, .int 0), (7, .int 479), (6, .int 1), (0, .ref q1), (1, .int 1), (2, .int x2), (3, .int x3), (4, .int x4), (5, .int x5)]) hx hb dX10_setEnvelope_140 hl (by decide) rfl (fun ls hl => ?_)
  refine lv_iconst (v := 0) hx hb dX10_setEnvelope_142 (by decide) ?_
  refine lv_istore (lv' := [(9, .int 0), (8, .int 0), (7, .int 479), (6, .int 1), (0, .ref q1), (1, .int 1), (2, .int x2), (3, .int x3), (4, .int x4), (5, .int x5)]) hx hb dX10_setEnvelope_143 hl (by decide) rfl (fun ls hl => ?_)
  refine lv_iload hx hb dX10_setEnvelope_145 (lv_at hl 0 rfl) ?_
  refine lv_iconst (v := 4) hx hb dX10_setEnvelope_147 (by decide) ?_
  refine lv_icmp_ge (tgt := 229) hx hb dX10_setEnvelope_148 (by decide) (fun h => absurd h (by decide)) (fun _ => ?_)
  refine lv_iconst (v := 1) hx hb dX10_setEnvelope_151 (by decide) ?_
  refine lv_istore (lv' := [(10, .int 1), (9, .int 0), (8, .int 0), (7, .int 479), (6, .int 1), (0, .ref q1), (1, .int 1), (2, .int x2), (3, .int x3), (4, .int x4), (5, .int x5)]) hx hb dX10_setEnvelope_152 hl (by decide) rfl (fun ls hl => ?_)
  refine lv_iconst (v := 0) hx hb dX10_setEnvelope_154 (by decide) ?_
  refine lv_istore (lv' := [(11, .int 0), (10, .int 1), (9, .int 0), (8, .int 0), (7, .int 479), (6, .int 1), (0, .ref q1), (1, .int 1), (2, .int x2), (3, .int x3), (4, .int x4), (5, .int x5)]) hx hb dX10_setEnvelope_155 hl (by decide) rfl (fun ls hl => ?_)
  refine lv_iload hx hb dX10_setEnvelope_157 (lv_at hl 0 rfl) ?_
  refine lv_iconst (v := 4) hx hb dX10_setEnvelope_159 (by decide) ?_
  refine lv_icmp_ge (tgt := 208) hx hb dX10_setEnvelope_160 (by decide) (fun h => absurd h (by decide)) (fun _ => ?_)
  refine lv_iload hx hb dX10_setEnvelope_163 (lv_at hl 1 rfl) ?_
  refine lv_aload_n hx hb dX10_setEnvelope_165 rfl (lv_at hl 6 rfl) ?_
  refine gf_RX10_9 hx hb hown hE hP 3 rfl rfl dX10_setEnvelope_166 ?_
  refine lv_sipush (v := 474) hx hb dX10_setEnvelope_169 (by decide) ?_
  refine lv_iconst (v := 5) hx hb dX10_setEnvelope_172 (by decide) ?_
  refine lv_iload hx hb dX10_setEnvelope_173 (lv_at hl 2 rfl) ?_
  refine x_imul (v := 0) hx hb dX10_setEnvelope_175 (by decide) ?_
  refine x_iadd (v := 474) hx hb dX10_setEnvelope_176 (by decide) ?_
  refine lv_iload hx hb dX10_setEnvelope_177 (lv_at hl 0 rfl) ?_
  refine x_iadd (v := 474) hx hb dX10_setEnvelope_179 (by decide) ?_
  refine x_iald (v := 0) hx hb hE hP 0 rfl 474 (x_in (by decide)) (by decide) ((pk_un (by decide)).trans ((pk_un (by decide)).trans ((pk_un (by decide)).trans ((pk_un (by decide)).trans hf56)))) dX10_setEnvelope_180 ?_
  refine lv_aload_n hx hb dX10_setEnvelope_181 rfl (lv_at hl 6 rfl) ?_
  refine gf_RX10_9 hx hb hown hE hP 3 rfl rfl dX10_setEnvelope_182 ?_
  refine lv_iload hx hb dX10_setEnvelope_185 (lv_at hl 4 rfl) ?_
  refine lv_iload hx hb dX10_setEnvelope_187 (lv_at hl 0 rfl) ?_
  refine x_iadd (v := 479) hx hb dX10_setEnvelope_189 (by decide) ?_
  refine x_iald (v := x2) hx hb hE hP 0 rfl 479 (x_in (by decide)) (by decide) ((pk_un (by decide)).trans ((pk_un (by decide)).trans ((pk_un (by decide)).trans pk_us))) dX10_setEnvelope_190 ?_
  refine lv_icmp_ne (tgt := 198) hx hb dX10_setEnvelope_191 (by decide) (fun h => absurd h (i_nne h57)) (fun _ => ?_)
  refine lv_iconst (v := 1) hx hb dX10_setEnvelope_194 (by decide) ?_
  refine lv_goto (tgt := 199) hx hb dX10_setEnvelope_195 (by decide) ?_
  refine x_iand (v := 1) hx hb dX10_setEnvelope_199 (by decide) ?_
  refine lv_istore (lv' := [(10, .int 1), (11, .int 0), (9, .int 0), (8, .int 0), (7, .int 479), (6, .int 1), (0, .ref q1), (1, .int 1), (2, .int x2), (3, .int x3), (4, .int x4), (5, .int x5)]) hx hb dX10_setEnvelope_200 hl (by decide) rfl (fun ls hl => ?_)
  refine lv_iinc (v := 1) (lv' := [(11, .int 1), (10, .int 1), (9, .int 0), (8, .int 0), (7, .int 479), (6, .int 1), (0, .ref q1), (1, .int 1), (2, .int x2), (3, .int x3), (4, .int x4), (5, .int x5)]) hx hb dX10_setEnvelope_202 hl (k := 1) rfl (by decide) (by decide) rfl (fun ls hl => ?_)
  refine lv_goto (tgt := 157) hx hb dX10_setEnvelope_205 (by decide) ?_
  refine lv_iload hx hb dX10_setEnvelope_157 (lv_at hl 0 rfl) ?_
  refine lv_iconst (v := 4) hx hb dX10_setEnvelope_159 (by decide) ?_
  refine lv_icmp_ge (tgt := 208) hx hb dX10_setEnvelope_160 (by decide) (fun h => absurd h (by decide)) (fun _ => ?_)
  refine lv_iload hx hb dX10_setEnvelope_163 (lv_at hl 1 rfl) ?_
  refine lv_aload_n hx hb dX10_setEnvelope_165 rfl (lv_at hl 6 rfl) ?_
  refine gf_RX10_9 hx hb hown hE hP 3 rfl rfl dX10_setEnvelope_166 ?_
  refine lv_sipush (v := 474) hx hb dX10_setEnvelope_169 (by decide) ?_
  refine lv_iconst (v := 5) hx hb dX10_setEnvelope_172 (by decide) ?_
  refine lv_iload hx hb dX10_setEnvelope_173 (lv_at hl 2 rfl) ?_
  refine x_imul (v := 0) hx hb dX10_setEnvelope_175 (by decide) ?_
  refine x_iadd (v := 474) hx hb dX10_setEnvelope_176 (by decide) ?_
  refine lv_iload hx hb dX10_setEnvelope_177 (lv_at hl 0 rfl) ?_
  refine x_iadd (v := 475) hx hb dX10_setEnvelope_179 (by decide) ?_
  refine x_iald (v := 0) hx hb hE hP 0 rfl 475 (x_in (by decide)) (by decide) ((pk_un (by decide)).trans ((pk_un (by decide)).trans ((pk_un (by decide)).trans ((pk_un (by decide)).trans hf58)))) dX10_setEnvelope_180 ?_
  refine lv_aload_n hx hb dX10_setEnvelope_181 rfl (lv_at hl 6 rfl) ?_
  refine gf_RX10_9 hx hb hown hE hP 3 rfl rfl dX10_setEnvelope_182 ?_
  refine lv_iload hx hb dX10_setEnvelope_185 (lv_at hl 4 rfl) ?_
  refine lv_iload hx hb dX10_setEnvelope_187 (lv_at hl 0 rfl) ?_
  refine x_iadd (v := 480) hx hb dX10_setEnvelope_189 (by decide) ?_
  refine x_iald (v := x3) hx hb hE hP 0 rfl 480 (x_in (by decide)) (by decide) ((pk_un (by decide)).trans ((pk_un (by decide)).trans pk_us)) dX10_setEnvelope_190 ?_
  refine lv_icmp_ne (tgt := 198) hx hb dX10_setEnvelope_191 (by decide) (fun h => absurd h (i_nne h59)) (fun _ => ?_)
  refine lv_iconst (v := 1) hx hb dX10_setEnvelope_194 (by decide) ?_
  refine lv_goto (tgt := 199) hx hb dX10_setEnvelope_195 (by decide) ?_
  refine x_iand (v := 1) hx hb dX10_setEnvelope_199 (by decide) ?_
  refine lv_istore (lv' := [(10, .int 1), (11, .int 1), (9, .int 0), (8, .int 0), (7, .int 479), (6, .int 1), (0, .ref q1), (1, .int 1), (2, .int x2), (3, .int x3), (4, .int x4), (5, .int x5)]) hx hb dX10_setEnvelope_200 hl (by decide) rfl (fun ls hl => ?_)
  refine lv_iinc (v := 2) (lv' := [(11, .int 2), (10, .int 1), (9, .int 0), (8, .int 0), (7, .int 479), (6, .int 1), (0, .ref q1), (1, .int 1), (2, .int x2), (3, .int x3), (4, .int x4), (5, .int x5)]) hx hb dX10_setEnvelope_202 hl (k := 1) rfl (by decide) (by decide) rfl (fun ls hl => ?_)
  refine lv_goto (tgt := 157) hx hb dX10_setEnvelope_205 (by decide) ?_
  refine lv_iload hx hb dX10_setEnvelope_157 (lv_at hl 0 rfl) ?_
  refine lv_iconst (v := 4) hx hb dX10_setEnvelope_159 (by decide) ?_
  refine lv_icmp_ge (tgt := 208) hx hb dX10_setEnvelope_160 (by decide) (fun h => absurd h (by decide)) (fun _ => ?_)
  refine lv_iload hx hb dX10_setEnvelope_163 (lv_at hl 1 rfl) ?_
  refine lv_aload_n hx hb dX10_setEnvelope_165 rfl (lv_at hl 6 rfl) ?_
  refine gf_RX10_9 hx hb hown hE hP 3 rfl rfl dX10_setEnvelope_166 ?_
  refine lv_sipush (v := 474) hx hb dX10_setEnvelope_169 (by decide) ?_
  refine lv_iconst (v := 5) hx hb dX10_setEnvelope_172 (by decide) ?_
  refine lv_iload hx hb dX10_setEnvelope_173 (lv_at hl 2 rfl) ?_
  refine x_imul (v := 0) hx hb dX10_setEnvelope_175 (by decide) ?_
  refine x_iadd (v := 474) hx hb dX10_setEnvelope_176 (by decide) ?_
  refine lv_iload hx hb dX10_setEnvelope_177 (lv_at hl 0 rfl) ?_
  refine x_iadd (v := 476) hx hb dX10_setEnvelope_179 (by decide) ?_
  refine x_iald (v := 100) hx hb hE hP 0 rfl 476 (x_in (by decide)) (by decide) ((pk_un (by decide)).trans ((pk_un (by decide)).trans ((pk_un (by decide)).trans ((pk_un (by decide)).trans hf60)))) dX10_setEnvelope_180 ?_
  refine lv_aload_n hx hb dX10_setEnvelope_181 rfl (lv_at hl 6 rfl) ?_
  refine gf_RX10_9 hx hb hown hE hP 3 rfl rfl dX10_setEnvelope_182 ?_
  refine lv_iload hx hb dX10_setEnvelope_185 (lv_at hl 4 rfl) ?_
  refine lv_iload hx hb dX10_setEnvelope_187 (lv_at hl 0 rfl) ?_
  refine x_iadd (v := 481) hx hb dX10_setEnvelope_189 (by decide) ?_
  refine x_iald (v := x4) hx hb hE hP 0 rfl 481 (x_in (by decide)) (by decide) ((pk_un (by decide)).trans pk_us) dX10_setEnvelope_190 ?_
  refine lv_icmp_ne (tgt := 198) hx hb dX10_setEnvelope_191 (by decide) (fun _ => ?_) (fun h => absurd h h61)
  refine lv_iconst (v := 0) hx hb dX10_setEnvelope_198 (by decide) ?_
  refine x_iand (v := 0) hx hb dX10_setEnvelope_199 (by decide) ?_
  refine lv_istore (lv' := [(10, .int 0), (11, .int 2), (9, .int 0), (8, .int 0), (7, .int 479), (6, .int 1), (0, .ref q1), (1, .int 1), (2, .int x2), (3, .int x3), (4, .int x4), (5, .int x5)]) hx hb dX10_setEnvelope_200 hl (by decide) rfl (fun ls hl => ?_)
  refine lv_iinc (v := 3) (lv' := [(11, .int 3), (10, .int 0), (9, .int 0), (8, .int 0), (7, .int 479), (6, .int 1), (0, .ref q1), (1, .int 1), (2, .int x2), (3, .int x3), (4, .int x4), (5, .int x5)]) hx hb dX10_setEnvelope_202 hl (k := 1) rfl (by decide) (by decide) rfl (fun ls hl => ?_)
  refine lv_goto (tgt := 157) hx hb dX10_setEnvelope_205 (by decide) ?_
  refine lv_iload hx hb dX10_setEnvelope_157 (lv_at hl 0 rfl) ?_
  refine lv_iconst (v := 4) hx hb dX10_setEnvelope_159 (by decide) ?_
  refine lv_icmp_ge (tgt := 208) hx hb dX10_setEnvelope_160 (by decide) (fun h => absurd h (by decide)) (fun _ => ?_)
  refine lv_iload hx hb dX10_setEnvelope_163 (lv_at hl 1 rfl) ?_
  refine lv_aload_n hx hb dX10_setEnvelope_165 rfl (lv_at hl 6 rfl) ?_
  refine gf_RX10_9 hx hb hown hE hP 3 rfl rfl dX10_setEnvelope_166 ?_
  refine lv_sipush (v := 474) hx hb dX10_setEnvelope_169 (by decide) ?_
  refine lv_iconst (v := 5) hx hb dX10_setEnvelope_172 (by decide) ?_
  refine lv_iload hx hb dX10_setEnvelope_173 (lv_at hl 2 rfl) ?_
  refine x_imul (v := 0) hx hb dX10_setEnvelope_175 (by decide) ?_
  refine x_iadd (v := 474) hx hb dX10_setEnvelope_176 (by decide) ?_
  refine lv_iload hx hb dX10_setEnvelope_177 (lv_at hl 0 rfl) ?_
  refine x_iadd (v := 477) hx hb dX10_setEnvelope_179 (by decide) ?_
  refine x_iald (v := 0) hx hb hE hP 0 rfl 477 (x_in (by decide)) (by decide) ((pk_un (by decide)).trans ((pk_un (by decide)).trans ((pk_un (by decide)).trans ((pk_un (by decide)).trans hf62)))) dX10_setEnvelope_180 ?_
  refine lv_aload_n hx hb dX10_setEnvelope_181 rfl (lv_at hl 6 rfl) ?_
  refine gf_RX10_9 hx hb hown hE hP 3 rfl rfl dX10_setEnvelope_182 ?_
  refine lv_iload hx hb dX10_setEnvelope_185 (lv_at hl 4 rfl) ?_
  refine lv_iload hx hb dX10_setEnvelope_187 (lv_at hl 0 rfl) ?_
  refine x_iadd (v := 482) hx hb dX10_setEnvelope_189 (by decide) ?_
  refine x_iald (v := x5) hx hb hE hP 0 rfl 482 (x_in (by decide)) (by decide) pk_us dX10_setEnvelope_190 ?_
  refine x_and0 hx hb dX10_setEnvelope_191 dX10_setEnvelope_194 dX10_setEnvelope_195 dX10_setEnvelope_198 dX10_setEnvelope_199 ?_
  refine lv_istore (lv' := [(10, .int 0), (11, .int 3), (9, .int 0), (8, .int 0), (7, .int 479), (6, .int 1), (0, .ref q1), (1, .int 1), (2, .int x2), (3, .int x3), (4, .int x4), (5, .int x5)]) hx hb dX10_setEnvelope_200 hl (by decide) rfl (fun ls hl => ?_)
  refine lv_iinc (v := 4) (lv' := [(11, .int 4), (10, .int 0), (9, .int 0), (8, .int 0), (7, .int 479), (6, .int 1), (0, .ref q1), (1, .int 1), (2, .int x2), (3, .int x3), (4, .int x4), (5, .int x5)]) hx hb dX10_setEnvelope_202 hl (k := 1) rfl (by decide) (by decide) rfl (fun ls hl => ?_)
  refine lv_goto (tgt := 157) hx hb dX10_setEnvelope_205 (by decide) ?_
  refine lv_iload hx hb dX10_setEnvelope_157 (lv_at hl 0 rfl) ?_
  refine lv_iconst (v := 4) hx hb dX10_setEnvelope_159 (by decide) ?_
  refine lv_icmp_ge (tgt := 208) hx hb dX10_setEnvelope_160 (by decide) (fun _ => ?_) (fun h => absurd (by decide) h)
  refine lv_iload hx hb dX10_setEnvelope_208 (lv_at hl 3 rfl) ?_
  refine lv_iload hx hb dX10_setEnvelope_210 (lv_at hl 1 rfl) ?_
  refine lv_if_eq (tgt := 219) hx hb dX10_setEnvelope_212 (by decide) (fun _ => ?_) (fun h => absurd (by decide) h)
  refine lv_iconst (v := 0) hx hb dX10_setEnvelope_219 (by decide) ?_
  refine x_iadd (v := 0) hx hb dX10_setEnvelope_220 (by decide) ?_
  refine lv_istore (lv' := [(8, .int 0), (11, .int 4), (10, .int 0), (9, .int 0), (7, .int 479), (6, .int 1), (0, .ref q1), (1, .int 1), (2, .int x2), (3, .int x3), (4, .int x4), (5, .int x5)]) hx hb dX10_setEnvelope_221 hl (by decide) rfl (fun ls hl => ?_)
  refine lv_iinc (v := 1) (lv' := [(9, .int 1), (8, .int 0), (11, .int 4), (10, .int 0), (7, .int 479), (6, .int 1), (0, .ref q1), (1, .int 1), (2, .int x2), (3, .int x3), (4, .int x4), (5, .int x5)]) hx hb dX10_setEnvelope_223 hl (k := 3) rfl (by decide) (by decide) rfl (fun ls hl => ?_)
  refine lv_goto (tgt := 145) hx hb dX10_setEnvelope_226 (by decide) ?_
  refine lv_iload hx hb dX10_setEnvelope_145 (lv_at hl 0 rfl) ?_
  refine lv_iconst (v := 4) hx hb dX10_setEnvelope_147 (by decide) ?_
  refine lv_icmp_ge (tgt := 229) hx hb dX10_setEnvelope_148 (by decide) (fun h => absurd h (by decide)) (fun _ => ?_)
  refine lv_iconst (v := 1) hx hb dX10_setEnvelope_151 (by decide) ?_
  refine lv_istore (lv' := [(10, .int 1), (9, .int 1), (8, .int 0), (11, .int 4), (7, .int 479), (6, .int 1), (0, .ref q1), (1, .int 1), (2, .int x2), (3, .int x3), (4, .int x4), (5, .int x5)]) hx hb dX10_setEnvelope_152 hl (by decide) rfl (fun ls hl => ?_)
  refine lv_iconst (v := 0) hx hb dX10_setEnvelope_154 (by decide) ?_
  refine lv_istore (lv' := [(11, .int 0), (10, .int 1), (9, .int 1), (8, .int 0), (7, .int 479), (6, .int 1), (0, .ref q1), (1, .int 1), (2, .int x2), (3, .int x3), (4, .int x4), (5, .int x5)]) hx hb dX10_setEnvelope_155 hl (by decide) rfl (fun ls hl => ?_)
  refine lv_iload hx hb dX10_setEnvelope_157 (lv_at hl 0 rfl) ?_
  refine lv_iconst (v := 4) hx hb dX10_setEnvelope_159 (by decide) ?_
  refine lv_icmp_ge (tgt := 208) hx hb dX10_setEnvelope_160 (by decide) (fun h => absurd h (by decide)) (fun _ => ?_)
  refine lv_iload hx hb dX10_setEnvelope_163 (lv_at hl 1 rfl) ?_
  refine lv_aload_n hx hb dX10_setEnvelope_165 rfl (lv_at hl 6 rfl) ?_
  refine gf_RX10_9 hx hb hown hE hP 3 rfl rfl dX10_setEnvelope_166 ?_
  refine lv_sipush (v := 474) hx hb dX10_setEnvelope_169 (by decide) ?_
  refine lv_iconst (v := 5) hx hb dX10_setEnvelope_172 (by decide) ?_
  refine lv_iload hx hb dX10_setEnvelope_173 (lv_at hl 2 rfl) ?_
  refine x_imul (v := 5) hx hb dX10_setEnvelope_175 (by decide) ?_
  refine x_iadd (v := 479) hx hb dX10_setEnvelope_176 (by decide) ?_
  refine lv_iload hx hb dX10_setEnvelope_177 (lv_at hl 0 rfl) ?_
  refine x_iadd (v := 479) hx hb dX10_setEnvelope_179 (by decide) ?_
  refine x_iald (v := x2) hx hb hE hP 0 rfl 479 (x_in (by decide)) (by decide) ((pk_un (by decide)).trans ((pk_un (by decide)).trans ((pk_un (by decide)).trans pk_us))) dX10_setEnvelope_180 ?_
  refine lv_aload_n hx hb dX10_setEnvelope_181 rfl (lv_at hl 6 rfl) ?_
  refine gf_RX10_9 hx hb hown hE hP 3 rfl rfl dX10_setEnvelope_182 ?_
  refine lv_iload hx hb dX10_setEnvelope_185 (lv_at hl 4 rfl) ?_
  refine lv_iload hx hb dX10_setEnvelope_187 (lv_at hl 0 rfl) ?_
  refine x_iadd (v := 479) hx hb dX10_setEnvelope_189 (by decide) ?_
  refine x_iald (v := x2) hx hb hE hP 0 rfl 479 (x_in (by decide)) (by decide) ((pk_un (by decide)).trans ((pk_un (by decide)).trans ((pk_un (by decide)).trans pk_us))) dX10_setEnvelope_190 ?_
  refine lv_icmp_ne (tgt := 198) hx hb dX10_setEnvelope_191 (by decide) (fun h => absurd h (i_nne rfl)) (fun _ => ?_)
  refine lv_iconst (v := 1) hx hb dX10_setEnvelope_194 (by decide) ?_
  refine lv_goto (tgt := 199) hx hb dX10_setEnvelope_195 (by decide) ?_
  refine x_iand (v := 1) hx hb dX10_setEnvelope_199 (by decide) ?_
  refine lv_istore (lv' := [(10, .int 1), (11, .int 0), (9, .int 1), (8, .int 0), (7, .int 479), (6, .int 1), (0, .ref q1), (1, .int 1), (2, .int x2), (3, .int x3), (4, .int x4), (5, .int x5)]) hx hb dX10_setEnvelope_200 hl (by decide) rfl (fun ls hl => ?_)
  refine lv_iinc (v := 1) (lv' := [(11, .int 1), (10, .int 1), (9, .int 1), (8, .int 0), (7, .int 479), (6, .int 1), (0, .ref q1), (1, .int 1), (2, .int x2), (3, .int x3), (4, .int x4), (5, .int x5)]) hx hb dX10_setEnvelope_202 hl (k := 1) rfl (by decide) (by decide) rfl (fun ls hl => ?_)
  refine lv_goto (tgt := 157) hx hb dX10_setEnvelope_205 (by decide) ?_
  refine lv_iload hx hb dX10_setEnvelope_157 (lv_at hl 0 rfl) ?_
  refine lv_iconst (v := 4) hx hb dX10_setEnvelope_159 (by decide) ?_
  refine lv_icmp_ge (tgt := 208) hx hb dX10_setEnvelope_160 (by decide) (fun h => absurd h (by decide)) (fun _ => ?_)
  refine lv_iload hx hb dX10_setEnvelope_163 (lv_at hl 1 rfl) ?_
  refine lv_aload_n hx hb dX10_setEnvelope_165 rfl (lv_at hl 6 rfl) ?_
  refine gf_RX10_9 hx hb hown hE hP 3 rfl rfl dX10_setEnvelope_166 ?_
  refine lv_sipush (v := 474) hx hb dX10_setEnvelope_169 (by decide) ?_
  refine lv_iconst (v := 5) hx hb dX10_setEnvelope_172 (by decide) ?_
  refine lv_iload hx hb dX10_setEnvelope_173 (lv_at hl 2 rfl) ?_
  refine x_imul (v := 5) hx hb dX10_setEnvelope_175 (by decide) ?_
  refine x_iadd (v := 479) hx hb dX10_setEnvelope_176 (by decide) ?_
  refine lv_iload hx hb dX10_setEnvelope_177 (lv_at hl 0 rfl) ?_
  refine x_iadd (v := 480) hx hb dX10_setEnvelope_179 (by decide) ?_
  refine x_iald (v := x3) hx hb hE hP 0 rfl 480 (x_in (by decide)) (by decide) ((pk_un (by decide)).trans ((pk_un (by decide)).trans pk_us)) dX10_setEnvelope_180 ?_
  refine lv_aload_n hx hb dX10_setEnvelope_181 rfl (lv_at hl 6 rfl) ?_
  refine gf_RX10_9 hx hb hown hE hP 3 rfl rfl dX10_setEnvelope_182 ?_
  refine lv_iload hx hb dX10_setEnvelope_185 (lv_at hl 4 rfl) ?_
  refine lv_iload hx hb dX10_setEnvelope_187 (lv_at hl 0 rfl) ?_
  refine x_iadd (v := 480) hx hb dX10_setEnvelope_189 (by decide) ?_
  refine x_iald (v := x3) hx hb hE hP 0 rfl 480 (x_in (by decide)) (by decide) ((pk_un (by decide)).trans ((pk_un (by decide)).trans pk_us)) dX10_setEnvelope_190 ?_
  refine lv_icmp_ne (tgt := 198) hx hb dX10_setEnvelope_191 (by decide) (fun h => absurd h (i_nne rfl)) (fun _ => ?_)
  refine lv_iconst (v := 1) hx hb dX10_setEnvelope_194 (by decide) ?_
  refine lv_goto (tgt := 199) hx hb dX10_setEnvelope_195 (by decide) ?_
  refine x_iand (v := 1) hx hb dX10_setEnvelope_199 (by decide) ?_
  refine lv_istore (lv' := [(10, .int 1), (11, .int 1), (9, .int 1), (8, .int 0), (7, .int 479), (6, .int 1), (0, .ref q1), (1, .int 1), (2, .int x2), (3, .int x3), (4, .int x4), (5, .int x5)]) hx hb dX10_setEnvelope_200 hl (by decide) rfl (fun ls hl => ?_)
  refine lv_iinc (v := 2) (lv' := [(11, .int 2), (10, .int 1), (9, .int 1), (8, .int 0), (7, .int 479), (6, .int 1), (0, .ref q1), (1, .int 1), (2, .int x2), (3, .int x3), (4, .int x4), (5, .int x5)]) hx hb dX10_setEnvelope_202 hl (k := 1) rfl (by decide) (by decide) rfl (fun ls hl => ?_)
  refine lv_goto (tgt := 157) hx hb dX10_setEnvelope_205 (by decide) ?_
  refine lv_iload hx hb dX10_setEnvelope_157 (lv_at hl 0 rfl) ?_
  refine lv_iconst (v := 4) hx hb dX10_setEnvelope_159 (by decide) ?_
  refine lv_icmp_ge (tgt := 208) hx hb dX10_setEnvelope_160 (by decide) (fun h => absurd h (by decide)) (fun _ => ?_)
  refine lv_iload hx hb dX10_setEnvelope_163 (lv_at hl 1 rfl) ?_
  refine lv_aload_n hx hb dX10_setEnvelope_165 rfl (lv_at hl 6 rfl) ?_
  refine gf_RX10_9 hx hb hown hE hP 3 rfl rfl dX10_setEnvelope_166 ?_
  refine lv_sipush (v := 474) hx hb dX10_setEnvelope_169 (by decide) ?_
  refine lv_iconst (v := 5) hx hb dX10_setEnvelope_172 (by decide) ?_
  refine lv_iload hx hb dX10_setEnvelope_173 (lv_at hl 2 rfl) ?_
  refine x_imul (v := 5) hx hb dX10_setEnvelope_175 (by decide) ?_
  refine x_iadd (v := 479) hx hb dX10_setEnvelope_176 (by decide) ?_
  refine lv_iload hx hb dX10_setEnvelope_177 (lv_at hl 0 rfl) ?_
  refine x_iadd (v := 481) hx hb dX10_setEnvelope_179 (by decide) ?_
  refine x_iald (v := x4) hx hb hE hP 0 rfl 481 (x_in (by decide)) (by decide) ((pk_un (by decide)).trans pk_us) dX10_setEnvelope_180 ?_
  refine lv_aload_n hx hb dX10_setEnvelope_181 rfl (lv_at hl 6 rfl) ?_
  refine gf_RX10_9 hx hb hown hE hP 3 rfl rfl dX10_setEnvelope_182 ?_
  refine lv_iload hx hb dX10_setEnvelope_185 (lv_at hl 4 rfl) ?_
  refine lv_iload hx hb dX10_setEnvelope_187 (lv_at hl 0 rfl) ?_
  refine x_iadd (v := 481) hx hb dX10_setEnvelope_189 (by decide) ?_
  refine x_iald (v := x4) hx hb hE hP 0 rfl 481 (x_in (by decide)) (by decide) ((pk_un (by decide)).trans pk_us) dX10_setEnvelope_190 ?_
  refine lv_icmp_ne (tgt := 198) hx hb dX10_setEnvelope_191 (by decide) (fun h => absurd h (i_nne rfl)) (fun _ => ?_)
  refine lv_iconst (v := 1) hx hb dX10_setEnvelope_194 (by decide) ?_
  refine lv_goto (tgt := 199) hx hb dX10_setEnvelope_195 (by decide) ?_
  refine x_iand (v := 1) hx hb dX10_setEnvelope_199 (by decide) ?_
  refine lv_istore (lv' := [(10, .int 1), (11, .int 2), (9, .int 1), (8, .int 0), (7, .int 479), (6, .int 1), (0, .ref q1), (1, .int 1), (2, .int x2), (3, .int x3), (4, .int x4), (5, .int x5)]) hx hb dX10_setEnvelope_200 hl (by decide) rfl (fun ls hl => ?_)
  refine lv_iinc (v := 3) (lv' := [(11, .int 3), (10, .int 1), (9, .int 1), (8, .int 0), (7, .int 479), (6, .int 1), (0, .ref q1), (1, .int 1), (2, .int x2), (3, .int x3), (4, .int x4), (5, .int x5)]) hx hb dX10_setEnvelope_202 hl (k := 1) rfl (by decide) (by decide) rfl (fun ls hl => ?_)
  refine lv_goto (tgt := 157) hx hb dX10_setEnvelope_205 (by decide) ?_
  refine lv_iload hx hb dX10_setEnvelope_157 (lv_at hl 0 rfl) ?_
  refine lv_iconst (v := 4) hx hb dX10_setEnvelope_159 (by decide) ?_
  refine lv_icmp_ge (tgt := 208) hx hb dX10_setEnvelope_160 (by decide) (fun h => absurd h (by decide)) (fun _ => ?_)
  refine lv_iload hx hb dX10_setEnvelope_163 (lv_at hl 1 rfl) ?_
  refine lv_aload_n hx hb dX10_setEnvelope_165 rfl (lv_at hl 6 rfl) ?_
  refine gf_RX10_9 hx hb hown hE hP 3 rfl rfl dX10_setEnvelope_166 ?_
  refine lv_sipush (v := 474) hx hb dX10_setEnvelope_169 (by decide) ?_
  refine lv_iconst (v := 5) hx hb dX10_setEnvelope_172 (by decide) ?_
  refine lv_iload hx hb dX10_setEnvelope_173 (lv_at hl 2 rfl) ?_
  refine x_imul (v := 5) hx hb dX10_setEnvelope_175 (by decide) ?_
  refine x_iadd (v := 479) hx hb dX10_setEnvelope_176 (by decide) ?_
  refine lv_iload hx hb dX10_setEnvelope_177 (lv_at hl 0 rfl) ?_
  refine x_iadd (v := 482) hx hb dX10_setEnvelope_179 (by decide) ?_
  refine x_iald (v := x5) hx hb hE hP 0 rfl 482 (x_in (by decide)) (by decide) pk_us dX10_setEnvelope_180 ?_
  refine lv_aload_n hx hb dX10_setEnvelope_181 rfl (lv_at hl 6 rfl) ?_
  refine gf_RX10_9 hx hb hown hE hP 3 rfl rfl dX10_setEnvelope_182 ?_
  refine lv_iload hx hb dX10_setEnvelope_185 (lv_at hl 4 rfl) ?_
  refine lv_iload hx hb dX10_setEnvelope_187 (lv_at hl 0 rfl) ?_
  refine x_iadd (v := 482) hx hb dX10_setEnvelope_189 (by decide) ?_
  refine x_iald (v := x5) hx hb hE hP 0 rfl 482 (x_in (by decide)) (by decide) pk_us dX10_setEnvelope_190 ?_
  refine lv_icmp_ne (tgt := 198) hx hb dX10_setEnvelope_191 (by decide) (fun h => absurd h (i_nne rfl)) (fun _ => ?_)
  refine lv_iconst (v := 1) hx hb dX10_setEnvelope_194 (by decide) ?_
  refine lv_goto (tgt := 199) hx hb dX10_setEnvelope_195 (by decide) ?_
  refine x_iand (v := 1) hx hb dX10_setEnvelope_199 (by decide) ?_
  refine lv_istore (lv' := [(10, .int 1), (11, .int 3), (9, .int 1), (8, .int 0), (7, .int 479), (6, .int 1), (0, .ref q1), (1, .int 1), (2, .int x2), (3, .int x3), (4, .int x4), (5, .int x5)]) hx hb dX10_setEnvelope_200 hl (by decide) rfl (fun ls hl => ?_)
  refine lv_iinc (v := 4) (lv' := [(11, .int 4), (10, .int 1), (9, .int 1), (8, .int 0), (7, .int 479), (6, .int 1), (0, .ref q1), (1, .int 1), (2, .int x2), (3, .int x3), (4, .int x4), (5, .int x5)]) hx hb dX10_setEnvelope_202 hl (k := 1) rfl (by decide) (by decide) rfl (fun ls hl => ?_)
  refine lv_goto (tgt := 157) hx hb dX10_setEnvelope_205 (by decide) ?_
  refine lv_iload hx hb dX10_setEnvelope_157 (lv_at hl 0 rfl) ?_
  refine lv_iconst (v := 4) hx hb dX10_setEnvelope_159 (by decide) ?_
  refine lv_icmp_ge (tgt := 208) hx hb dX10_setEnvelope_160 (by decide) (fun _ => ?_) (fun h => absurd (by decide) h)
  refine lv_iload hx hb dX10_setEnvelope_208 (lv_at hl 3 rfl) ?_
  refine lv_iload hx hb dX10_setEnvelope_210 (lv_at hl 1 rfl) ?_
  refine lv_if_eq (tgt := 219) hx hb dX10_setEnvelope_212 (by decide) (fun h => absurd h (by decide)) (fun _ => ?_)
  refine lv_iconst (v := 1) hx hb dX10_setEnvelope_215 (by decide) ?_
  refine lv_goto (tgt := 220) hx hb dX10_setEnvelope_216 (by decide) ?_
  refine x_iadd (v := 1) hx hb dX10_setEnvelope_220 (by decide) ?_
  refine lv_istore (lv' := [(8, .int 1), (11, .int 4), (10, .int 1), (9, .int 1), (7, .int 479), (6, .int 1), (0, .ref q1), (1, .int 1), (2, .int x2), (3, .int x3), (4, .int x4), (5, .int x5)]) hx hb dX10_setEnvelope_221 hl (by decide) rfl (fun ls hl => ?_)
  refine lv_iinc (v := 2) (lv' := [(9, .int 2), (8, .int 1), (11, .int 4), (10, .int 1), (7, .int 479), (6, .int 1), (0, .ref q1), (1, .int 1), (2, .int x2), (3, .int x3), (4, .int x4), (5, .int x5)]) hx hb dX10_setEnvelope_223 hl (k := 3) rfl (by decide) (by decide) rfl (fun ls hl => ?_)
  refine lv_goto (tgt := 145) hx hb dX10_setEnvelope_226 (by decide) ?_
  refine lv_iload hx hb dX10_setEnvelope_145 (lv_at hl 0 rfl) ?_
  refine lv_iconst (v := 4) hx hb dX10_setEnvelope_147 (by decide) ?_
  refine lv_icmp_ge (tgt := 229) hx hb dX10_setEnvelope_148 (by decide) (fun h => absurd h (by decide)) (fun _ => ?_)
  refine lv_iconst (v := 1) hx hb dX10_setEnvelope_151 (by decide) ?_
  refine lv_istore (lv' := [(10, .int 1), (9, .int 2), (8, .int 1), (11, .int 4), (7, .int 479), (6, .int 1), (0, .ref q1), (1, .int 1), (2, .int x2), (3, .int x3), (4, .int x4), (5, .int x5)]) hx hb dX10_setEnvelope_152 hl (by decide) rfl (fun ls hl => ?_)
  refine lv_iconst (v := 0) hx hb dX10_setEnvelope_154 (by decide) ?_
  refine lv_istore (lv' := [(11, .int 0), (10, .int 1), (9, .int 2), (8, .int 1), (7, .int 479), (6, .int 1), (0, .ref q1), (1, .int 1), (2, .int x2), (3, .int x3), (4, .int x4), (5, .int x5)]) hx hb dX10_setEnvelope_155 hl (by decide) rfl (fun ls hl => ?_)
  refine lv_iload hx hb dX10_setEnvelope_157 (lv_at hl 0 rfl) ?_
  refine lv_iconst (v := 4) hx hb dX10_setEnvelope_159 (by decide) ?_
  refine lv_icmp_ge (tgt := 208) hx hb dX10_setEnvelope_160 (by decide) (fun h => absurd h (by decide)) (fun _ => ?_)
  refine lv_iload hx hb dX10_setEnvelope_163 (lv_at hl 1 rfl) ?_
  refine lv_aload_n hx hb dX10_setEnvelope_165 rfl (lv_at hl 6 rfl) ?_
  refine gf_RX10_9 hx hb hown hE hP 3 rfl rfl dX10_setEnvelope_166 ?_
  refine lv_sipush (v := 474) hx hb dX10_setEnvelope_169 (by decide) ?_
  refine lv_iconst (v := 5) hx hb dX10_setEnvelope_172 (by decide) ?_
  refine lv_iload hx hb dX10_setEnvelope_173 (lv_at hl 2 rfl) ?_
  refine x_imul (v := 10) hx hb dX10_setEnvelope_175 (by decide) ?_
  refine x_iadd (v := 484) hx hb dX10_setEnvelope_176 (by decide) ?_
  refine lv_iload hx hb dX10_setEnvelope_177 (lv_at hl 0 rfl) ?_
  refine x_iadd (v := 484) hx hb dX10_setEnvelope_179 (by decide) ?_
  refine x_iald (v := 0) hx hb hE hP 0 rfl 484 (x_in (by decide)) (by decide) ((pk_un (by decide)).trans ((pk_un (by decide)).trans ((pk_un (by decide)).trans ((pk_un (by decide)).trans hf63)))) dX10_setEnvelope_180 ?_
  refine lv_aload_n hx hb dX10_setEnvelope_181 rfl (lv_at hl 6 rfl) ?_
  refine gf_RX10_9 hx hb hown hE hP 3 rfl rfl dX10_setEnvelope_182 ?_
  refine lv_iload hx hb dX10_setEnvelope_185 (lv_at hl 4 rfl) ?_
  refine lv_iload hx hb dX10_setEnvelope_187 (lv_at hl 0 rfl) ?_
  refine x_iadd (v := 479) hx hb dX10_setEnvelope_189 (by decide) ?_
  refine x_iald (v := x2) hx hb hE hP 0 rfl 479 (x_in (by decide)) (by decide) ((pk_un (by decide)).trans ((pk_un (by decide)).trans ((pk_un (by decide)).trans pk_us))) dX10_setEnvelope_190 ?_
  refine lv_icmp_ne (tgt := 198) hx hb dX10_setEnvelope_191 (by decide) (fun h => absurd h (i_nne h57)) (fun _ => ?_)
  refine lv_iconst (v := 1) hx hb dX10_setEnvelope_194 (by decide) ?_
  refine lv_goto (tgt := 199) hx hb dX10_setEnvelope_195 (by decide) ?_
  refine x_iand (v := 1) hx hb dX10_setEnvelope_199 (by decide) ?_
  refine lv_istore (lv' := [(10, .int 1), (11, .int 0), (9, .int 2), (8, .int 1), (7, .int 479), (6, .int 1), (0, .ref q1), (1, .int 1), (2, .int x2), (3, .int x3), (4, .int x4), (5, .int x5)]) hx hb dX10_setEnvelope_200 hl (by decide) rfl (fun ls hl => ?_)
  refine lv_iinc (v := 1) (lv' := [(11, .int 1), (10, .int 1), (9, .int 2), (8, .int 1), (7, .int 479), (6, .int 1), (0, .ref q1), (1, .int 1), (2, .int x2), (3, .int x3), (4, .int x4), (5, .int x5)]) hx hb dX10_setEnvelope_202 hl (k := 1) rfl (by decide) (by decide) rfl (fun ls hl => ?_)
  refine lv_goto (tgt := 157) hx hb dX10_setEnvelope_205 (by decide) ?_
  refine lv_iload hx hb dX10_setEnvelope_157 (lv_at hl 0 rfl) ?_
  refine lv_iconst (v := 4) hx hb dX10_setEnvelope_159 (by decide) ?_
  refine lv_icmp_ge (tgt := 208) hx hb dX10_setEnvelope_160 (by decide) (fun h => absurd h (by decide)) (fun _ => ?_)
  refine lv_iload hx hb dX10_setEnvelope_163 (lv_at hl 1 rfl) ?_
  refine lv_aload_n hx hb dX10_setEnvelope_165 rfl (lv_at hl 6 rfl) ?_
  refine gf_RX10_9 hx hb hown hE hP 3 rfl rfl dX10_setEnvelope_166 ?_
  refine lv_sipush (v := 474) hx hb dX10_setEnvelope_169 (by decide) ?_
  refine lv_iconst (v := 5) hx hb dX10_setEnvelope_172 (by decide) ?_
  refine lv_iload hx hb dX10_setEnvelope_173 (lv_at hl 2 rfl) ?_
  refine x_imul (v := 10) hx hb dX10_setEnvelope_175 (by decide) ?_
  refine x_iadd (v := 484) hx hb dX10_setEnvelope_176 (by decide) ?_
  refine lv_iload hx hb dX10_setEnvelope_177 (lv_at hl 0 rfl) ?_
  refine x_iadd (v := 485) hx hb dX10_setEnvelope_179 (by decide) ?_
  refine x_iald (v := 0) hx hb hE hP 0 rfl 485 (x_in (by decide)) (by decide) ((pk_un (by decide)).trans ((pk_un (by decide)).trans ((pk_un (by decide)).trans ((pk_un (by decide)).trans hf64)))) dX10_setEnvelope_180 ?_
  refine lv_aload_n hx hb dX10_setEnvelope_181 rfl (lv_at hl 6 rfl) ?_
  refine gf_RX10_9 hx hb hown hE hP 3 rfl rfl dX10_setEnvelope_182 ?_
  refine lv_iload hx hb dX10_setEnvelope_185 (lv_at hl 4 rfl) ?_
  refine lv_iload hx hb dX10_setEnvelope_187 (lv_at hl 0 rfl) ?_
  refine x_iadd (v := 480) hx hb dX10_setEnvelope_189 (by decide) ?_
  refine x_iald (v := x3) hx hb hE hP 0 rfl 480 (x_in (by decide)) (by decide) ((pk_un (by decide)).trans ((pk_un (by decide)).trans pk_us)) dX10_setEnvelope_190 ?_
  refine lv_icmp_ne (tgt := 198) hx hb dX10_setEnvelope_191 (by decide) (fun h => absurd h (i_nne h59)) (fun _ => ?_)
  refine lv_iconst (v := 1) hx hb dX10_setEnvelope_194 (by decide) ?_
  refine lv_goto (tgt := 199) hx hb dX10_setEnvelope_195 (by decide) ?_
  refine x_iand (v := 1) hx hb dX10_setEnvelope_199 (by decide) ?_
  refine lv_istore (lv' := [(10, .int 1), (11, .int 1), (9, .int 2), (8, .int 1), (7, .int 479), (6, .int 1), (0, .ref q1), (1, .int 1), (2, .int x2), (3, .int x3), (4, .int x4), (5, .int x5)]) hx hb dX10_setEnvelope_200 hl (by decide) rfl (fun ls hl => ?_)
  refine lv_iinc (v := 2) (lv' := [(11, .int 2), (10, .int 1), (9, .int 2), (8, .int 1), (7, .int 479), (6, .int 1), (0, .ref q1), (1, .int 1), (2, .int x2), (3, .int x3), (4, .int x4), (5, .int x5)]) hx hb dX10_setEnvelope_202 hl (k := 1) rfl (by decide) (by decide) rfl (fun ls hl => ?_)
  refine lv_goto (tgt := 157) hx hb dX10_setEnvelope_205 (by decide) ?_
  refine lv_iload hx hb dX10_setEnvelope_157 (lv_at hl 0 rfl) ?_
  refine lv_iconst (v := 4) hx hb dX10_setEnvelope_159 (by decide) ?_
  refine lv_icmp_ge (tgt := 208) hx hb dX10_setEnvelope_160 (by decide) (fun h => absurd h (by decide)) (fun _ => ?_)
  refine lv_iload hx hb dX10_setEnvelope_163 (lv_at hl 1 rfl) ?_
  refine lv_aload_n hx hb dX10_setEnvelope_165 rfl (lv_at hl 6 rfl) ?_
  refine gf_RX10_9 hx hb hown hE hP 3 rfl rfl dX10_setEnvelope_166 ?_
  refine lv_sipush (v := 474) hx hb dX10_setEnvelope_169 (by decide) ?_
  refine lv_iconst (v := 5) hx hb dX10_setEnvelope_172 (by decide) ?_
  refine lv_iload hx hb dX10_setEnvelope_173 (lv_at hl 2 rfl) ?_
  refine x_imul (v := 10) hx hb dX10_setEnvelope_175 (by decide) ?_
  refine x_iadd (v := 484) hx hb dX10_setEnvelope_176 (by decide) ?_
  refine lv_iload hx hb dX10_setEnvelope_177 (lv_at hl 0 rfl) ?_
  refine x_iadd (v := 486) hx hb dX10_setEnvelope_179 (by decide) ?_
  refine x_iald (v := 100) hx hb hE hP 0 rfl 486 (x_in (by decide)) (by decide) ((pk_un (by decide)).trans ((pk_un (by decide)).trans ((pk_un (by decide)).trans ((pk_un (by decide)).trans hf65)))) dX10_setEnvelope_180 ?_
  refine lv_aload_n hx hb dX10_setEnvelope_181 rfl (lv_at hl 6 rfl) ?_
  refine gf_RX10_9 hx hb hown hE hP 3 rfl rfl dX10_setEnvelope_182 ?_
  refine lv_iload hx hb dX10_setEnvelope_185 (lv_at hl 4 rfl) ?_
  refine lv_iload hx hb dX10_setEnvelope_187 (lv_at hl 0 rfl) ?_
  refine x_iadd (v := 481) hx hb dX10_setEnvelope_189 (by decide) ?_
  refine x_iald (v := x4) hx hb hE hP 0 rfl 481 (x_in (by decide)) (by decide) ((pk_un (by decide)).trans pk_us) dX10_setEnvelope_190 ?_
  refine lv_icmp_ne (tgt := 198) hx hb dX10_setEnvelope_191 (by decide) (fun _ => ?_) (fun h => absurd h h61)
  refine lv_iconst (v := 0) hx hb dX10_setEnvelope_198 (by decide) ?_
  refine x_iand (v := 0) hx hb dX10_setEnvelope_199 (by decide) ?_
  refine lv_istore (lv' := [(10, .int 0), (11, .int 2), (9, .int 2), (8, .int 1), (7, .int 479), (6, .int 1), (0, .ref q1), (1, .int 1), (2, .int x2), (3, .int x3), (4, .int x4), (5, .int x5)]) hx hb dX10_setEnvelope_200 hl (by decide) rfl (fun ls hl => ?_)
  refine lv_iinc (v := 3) (lv' := [(11, .int 3), (10, .int 0), (9, .int 2), (8, .int 1), (7, .int 479), (6, .int 1), (0, .ref q1), (1, .int 1), (2, .int x2), (3, .int x3), (4, .int x4), (5, .int x5)]) hx hb dX10_setEnvelope_202 hl (k := 1) rfl (by decide) (by decide) rfl (fun ls hl => ?_)
  refine lv_goto (tgt := 157) hx hb dX10_setEnvelope_205 (by decide) ?_
  refine lv_iload hx hb dX10_setEnvelope_157 (lv_at hl 0 rfl) ?_
  refine lv_iconst (v := 4) hx hb dX10_setEnvelope_159 (by decide) ?_
  refine lv_icmp_ge (tgt := 208) hx hb dX10_setEnvelope_160 (by decide) (fun h => absurd h (by decide)) (fun _ => ?_)
  refine lv_iload hx hb dX10_setEnvelope_163 (lv_at hl 1 rfl) ?_
  refine lv_aload_n hx hb dX10_setEnvelope_165 rfl (lv_at hl 6 rfl) ?_
  refine gf_RX10_9 hx hb hown hE hP 3 rfl rfl dX10_setEnvelope_166 ?_
  refine lv_sipush (v := 474) hx hb dX10_setEnvelope_169 (by decide) ?_
  refine lv_iconst (v := 5) hx hb dX10_setEnvelope_172 (by decide) ?_
  refine lv_iload hx hb dX10_setEnvelope_173 (lv_at hl 2 rfl) ?_
  refine x_imul (v := 10) hx hb dX10_setEnvelope_175 (by decide) ?_
  refine x_iadd (v := 484) hx hb dX10_setEnvelope_176 (by decide) ?_
  refine lv_iload hx hb dX10_setEnvelope_177 (lv_at hl 0 rfl) ?_
  refine x_iadd (v := 487) hx hb dX10_setEnvelope_179 (by decide) ?_
  refine x_iald (v := 0) hx hb hE hP 0 rfl 487 (x_in (by decide)) (by decide) ((pk_un (by decide)).trans ((pk_un (by decide)).trans ((pk_un (by decide)).trans ((pk_un (by decide)).trans hf66)))) dX10_setEnvelope_180 ?_
  refine lv_aload_n hx hb dX10_setEnvelope_181 rfl (lv_at hl 6 rfl) ?_
  refine gf_RX10_9 hx hb hown hE hP 3 rfl rfl dX10_setEnvelope_182 ?_
  refine lv_iload hx hb dX10_setEnvelope_185 (lv_at hl 4 rfl) ?_
  refine lv_iload hx hb dX10_setEnvelope_187 (lv_at hl 0 rfl) ?_
  refine x_iadd (v := 482) hx hb dX10_setEnvelope_189 (by decide) ?_
  refine x_iald (v := x5) hx hb hE hP 0 rfl 482 (x_in (by decide)) (by decide) pk_us dX10_setEnvelope_190 ?_
  refine x_and0 hx hb dX10_setEnvelope_191 dX10_setEnvelope_194 dX10_setEnvelope_195 dX10_setEnvelope_198 dX10_setEnvelope_199 ?_
  refine lv_istore (lv' := [(10, .int 0), (11, .int 3), (9, .int 2), (8, .int 1), (7, .int 479), (6, .int 1), (0, .ref q1), (1, .int 1), (2, .int x2), (3, .int x3), (4, .int x4), (5, .int x5)]) hx hb dX10_setEnvelope_200 hl (by decide) rfl (fun ls hl => ?_)
  refine lv_iinc (v := 4) (lv' := [(11, .int 4), (10, .int 0), (9, .int 2), (8, .int 1), (7, .int 479), (6, .int 1), (0, .ref q1), (1, .int 1), (2, .int x2), (3, .int x3), (4, .int x4), (5, .int x5)]) hx hb dX10_setEnvelope_202 hl (k := 1) rfl (by decide) (by decide) rfl (fun ls hl => ?_)
  refine lv_goto (tgt := 157) hx hb dX10_setEnvelope_205 (by decide) ?_
  refine lv_iload hx hb dX10_setEnvelope_157 (lv_at hl 0 rfl) ?_
  refine lv_iconst (v := 4) hx hb dX10_setEnvelope_159 (by decide) ?_
  refine lv_icmp_ge (tgt := 208) hx hb dX10_setEnvelope_160 (by decide) (fun _ => ?_) (fun h => absurd (by decide) h)
  refine lv_iload hx hb dX10_setEnvelope_208 (lv_at hl 3 rfl) ?_
  refine lv_iload hx hb dX10_setEnvelope_210 (lv_at hl 1 rfl) ?_
  refine lv_if_eq (tgt := 219) hx hb dX10_setEnvelope_212 (by decide) (fun _ => ?_) (fun h => absurd (by decide) h)
  refine lv_iconst (v := 0) hx hb dX10_setEnvelope_219 (by decide) ?_
  refine x_iadd (v := 1) hx hb dX10_setEnvelope_220 (by decide) ?_
  refine lv_istore (lv' := [(8, .int 1), (11, .int 4), (10, .int 0), (9, .int 2), (7, .int 479), (6, .int 1), (0, .ref q1), (1, .int 1), (2, .int x2), (3, .int x3), (4, .int x4), (5, .int x5)]) hx hb dX10_setEnvelope_221 hl (by decide) rfl (fun ls hl => ?_)
  refine lv_iinc (v := 3) (lv' := [(9, .int 3), (8, .int 1), (11, .int 4), (10, .int 0), (7, .int 479), (6, .int 1), (0, .ref q1), (1, .int 1), (2, .int x2), (3, .int x3), (4, .int x4), (5, .int x5)]) hx hb dX10_setEnvelope_223 hl (k := 3) rfl (by decide) (by decide) rfl (fun ls hl => ?_)
  refine lv_goto (tgt := 145) hx hb dX10_setEnvelope_226 (by decide) ?_
  refine lv_iload hx hb dX10_setEnvelope_145 (lv_at hl 0 rfl) ?_
  refine lv_iconst (v := 4) hx hb dX10_setEnvelope_147 (by decide) ?_
  refine lv_icmp_ge (tgt := 229) hx hb dX10_setEnvelope_148 (by decide) (fun h => absurd h (by decide)) (fun _ => ?_)
  refine lv_iconst (v := 1) hx hb dX10_setEnvelope_151 (by decide) ?_
  refine lv_istore (lv' := [(10, .int 1), (9, .int 3), (8, .int 1), (11, .int 4), (7, .int 479), (6, .int 1), (0, .ref q1), (1, .int 1), (2, .int x2), (3, .int x3), (4, .int x4), (5, .int x5)]) hx hb dX10_setEnvelope_152 hl (by decide) rfl (fun ls hl => ?_)
  refine lv_iconst (v := 0) hx hb dX10_setEnvelope_154 (by decide) ?_
  refine lv_istore (lv' := [(11, .int 0), (10, .int 1), (9, .int 3), (8, .int 1), (7, .int 479), (6, .int 1), (0, .ref q1), (1, .int 1), (2, .int x2), (3, .int x3), (4, .int x4), (5, .int x5)]) hx hb dX10_setEnvelope_155 hl (by decide) rfl (fun ls hl => ?_)
  refine lv_iload hx hb dX10_setEnvelope_157 (lv_at hl 0 rfl) ?_
  refine lv_iconst (v := 4) hx hb dX10_setEnvelope_159 (by decide) ?_
  refine lv_icmp_ge (tgt := 208) hx hb dX10_setEnvelope_160 (by decide) (fun h => absurd h (by decide)) (fun _ => ?_)
  refine lv_iload hx hb dX10_setEnvelope_163 (lv_at hl 1 rfl) ?_
  refine lv_aload_n hx hb dX10_setEnvelope_165 rfl (lv_at hl 6 rfl) ?_
  refine gf_RX10_9 hx hb hown hE hP 3 rfl rfl dX10_setEnvelope_166 ?_
  refine lv_sipush (v := 474) hx hb dX10_setEnvelope_169 (by decide) ?_
  refine lv_iconst (v := 5) hx hb dX10_setEnvelope_172 (by decide) ?_
  refine lv_iload hx hb dX10_setEnvelope_173 (lv_at hl 2 rfl) ?_
  refine x_imul (v := 15) hx hb dX10_setEnvelope_175 (by decide) ?_
  refine x_iadd (v := 489) hx hb dX10_setEnvelope_176 (by decide) ?_
  refine lv_iload hx hb dX10_setEnvelope_177 (lv_at hl 0 rfl) ?_
  refine x_iadd (v := 489) hx hb dX10_setEnvelope_179 (by decide) ?_
  refine x_iald (v := 0) hx hb hE hP 0 rfl 489 (x_in (by decide)) (by decide) ((pk_un (by decide)).trans ((pk_un (by decide)).trans ((pk_un (by decide)).trans ((pk_un (by decide)).trans hf67)))) dX10_setEnvelope_180 ?_
  refine lv_aload_n hx hb dX10_setEnvelope_181 rfl (lv_at hl 6 rfl) ?_
  refine gf_RX10_9 hx hb hown hE hP 3 rfl rfl dX10_setEnvelope_182 ?_
  refine lv_iload hx hb dX10_setEnvelope_185 (lv_at hl 4 rfl) ?_
  refine lv_iload hx hb dX10_setEnvelope_187 (lv_at hl 0 rfl) ?_
  refine x_iadd (v := 479) hx hb dX10_setEnvelope_189 (by decide) ?_
  refine x_iald (v := x2) hx hb hE hP 0 rfl 479 (x_in (by decide)) (by decide) ((pk_un (by decide)).trans ((pk_un (by decide)).trans ((pk_un (by decide)).trans pk_us))) dX10_setEnvelope_190 ?_
  refine lv_icmp_ne (tgt := 198) hx hb dX10_setEnvelope_191 (by decide) (fun h => absurd h (i_nne h57)) (fun _ => ?_)
  refine lv_iconst (v := 1) hx hb dX10_setEnvelope_194 (by decide) ?_
  refine lv_goto (tgt := 199) hx hb dX10_setEnvelope_195 (by decide) ?_
  refine x_iand (v := 1) hx hb dX10_setEnvelope_199 (by decide) ?_
  refine lv_istore (lv' := [(10, .int 1), (11, .int 0), (9, .int 3), (8, .int 1), (7, .int 479), (6, .int 1), (0, .ref q1), (1, .int 1), (2, .int x2), (3, .int x3), (4, .int x4), (5, .int x5)]) hx hb dX10_setEnvelope_200 hl (by decide) rfl (fun ls hl => ?_)
  refine lv_iinc (v := 1) (lv' := [(11, .int 1), (10, .int 1), (9, .int 3), (8, .int 1), (7, .int 479), (6, .int 1), (0, .ref q1), (1, .int 1), (2, .int x2), (3, .int x3), (4, .int x4), (5, .int x5)]) hx hb dX10_setEnvelope_202 hl (k := 1) rfl (by decide) (by decide) rfl (fun ls hl => ?_)
  refine lv_goto (tgt := 157) hx hb dX10_setEnvelope_205 (by decide) ?_
  refine lv_iload hx hb dX10_setEnvelope_157 (lv_at hl 0 rfl) ?_
  refine lv_iconst (v := 4) hx hb dX10_setEnvelope_159 (by decide) ?_
  refine lv_icmp_ge (tgt := 208) hx hb dX10_setEnvelope_160 (by decide) (fun h => absurd h (by decide)) (fun _ => ?_)
  refine lv_iload hx hb dX10_setEnvelope_163 (lv_at hl 1 rfl) ?_
  refine lv_aload_n hx hb dX10_setEnvelope_165 rfl (lv_at hl 6 rfl) ?_
  refine gf_RX10_9 hx hb hown hE hP 3 rfl rfl dX10_setEnvelope_166 ?_
  refine lv_sipush (v := 474) hx hb dX10_setEnvelope_169 (by decide) ?_
  refine lv_iconst (v := 5) hx hb dX10_setEnvelope_172 (by decide) ?_
  refine lv_iload hx hb dX10_setEnvelope_173 (lv_at hl 2 rfl) ?_
  refine x_imul (v := 15) hx hb dX10_setEnvelope_175 (by decide) ?_
  refine x_iadd (v := 489) hx hb dX10_setEnvelope_176 (by decide) ?_
  refine lv_iload hx hb dX10_setEnvelope_177 (lv_at hl 0 rfl) ?_
  refine x_iadd (v := 490) hx hb dX10_setEnvelope_179 (by decide) ?_
  refine x_iald (v := 0) hx hb hE hP 0 rfl 490 (x_in (by decide)) (by decide) ((pk_un (by decide)).trans ((pk_un (by decide)).trans ((pk_un (by decide)).trans ((pk_un (by decide)).trans hf68)))) dX10_setEnvelope_180 ?_
  refine lv_aload_n hx hb dX10_setEnvelope_181 rfl (lv_at hl 6 rfl) ?_
  refine gf_RX10_9 hx hb hown hE hP 3 rfl rfl dX10_setEnvelope_182 ?_
  refine lv_iload hx hb dX10_setEnvelope_185 (lv_at hl 4 rfl) ?_
  refine lv_iload hx hb dX10_setEnvelope_187 (lv_at hl 0 rfl) ?_
  refine x_iadd (v := 480) hx hb dX10_setEnvelope_189 (by decide) ?_
  refine x_iald (v := x3) hx hb hE hP 0 rfl 480 (x_in (by decide)) (by decide) ((pk_un (by decide)).trans ((pk_un (by decide)).trans pk_us)) dX10_setEnvelope_190 ?_
  refine lv_icmp_ne (tgt := 198) hx hb dX10_setEnvelope_191 (by decide) (fun h => absurd h (i_nne h59)) (fun _ => ?_)
  refine lv_iconst (v := 1) hx hb dX10_setEnvelope_194 (by decide) ?_
  refine lv_goto (tgt := 199) hx hb dX10_setEnvelope_195 (by decide) ?_
  refine x_iand (v := 1) hx hb dX10_setEnvelope_199 (by decide) ?_
  refine lv_istore (lv' := [(10, .int 1), (11, .int 1), (9, .int 3), (8, .int 1), (7, .int 479), (6, .int 1), (0, .ref q1), (1, .int 1), (2, .int x2), (3, .int x3), (4, .int x4), (5, .int x5)]) hx hb dX10_setEnvelope_200 hl (by decide) rfl (fun ls hl => ?_)
  refine lv_iinc (v := 2) (lv' := [(11, .int 2), (10, .int 1), (9, .int 3), (8, .int 1), (7, .int 479), (6, .int 1), (0, .ref q1), (1, .int 1), (2, .int x2), (3, .int x3), (4, .int x4), (5, .int x5)]) hx hb dX10_setEnvelope_202 hl (k := 1) rfl (by decide) (by decide) rfl (fun ls hl => ?_)
  refine lv_goto (tgt := 157) hx hb dX10_setEnvelope_205 (by decide) ?_
  refine lv_iload hx hb dX10_setEnvelope_157 (lv_at hl 0 rfl) ?_
  refine lv_iconst (v := 4) hx hb dX10_setEnvelope_159 (by decide) ?_
  refine lv_icmp_ge (tgt := 208) hx hb dX10_setEnvelope_160 (by decide) (fun h => absurd h (by decide)) (fun _ => ?_)
  refine lv_iload hx hb dX10_setEnvelope_163 (lv_at hl 1 rfl) ?_
  refine lv_aload_n hx hb dX10_setEnvelope_165 rfl (lv_at hl 6 rfl) ?_
  refine gf_RX10_9 hx hb hown hE hP 3 rfl rfl dX10_setEnvelope_166 ?_
  refine lv_sipush (v := 474) hx hb dX10_setEnvelope_169 (by decide) ?_
  refine lv_iconst (v := 5) hx hb dX10_setEnvelope_172 (by decide) ?_
  refine lv_iload hx hb dX10_setEnvelope_173 (lv_at hl 2 rfl) ?_
  refine x_imul (v := 15) hx hb dX10_setEnvelope_175 (by decide) ?_
  refine x_iadd (v := 489) hx hb dX10_setEnvelope_176 (by decide) ?_
  refine lv_iload hx hb dX10_setEnvelope_177 (lv_at hl 0 rfl) ?_
  refine x_iadd (v := 491) hx hb dX10_setEnvelope_179 (by decide) ?_
  refine x_iald (v := 100) hx hb hE hP 0 rfl 491 (x_in (by decide)) (by decide) ((pk_un (by decide)).trans ((pk_un (by decide)).trans ((pk_un (by decide)).trans ((pk_un (by decide)).trans hf69)))) dX10_setEnvelope_180 ?_
  refine lv_aload_n hx hb dX10_setEnvelope_181 rfl (lv_at hl 6 rfl) ?_
  refine gf_RX10_9 hx hb hown hE hP 3 rfl rfl dX10_setEnvelope_182 ?_
  refine lv_iload hx hb dX10_setEnvelope_185 (lv_at hl 4 rfl) ?_
  refine lv_iload hx hb dX10_setEnvelope_187 (lv_at hl 0 rfl) ?_
  refine x_iadd (v := 481) hx hb dX10_setEnvelope_189 (by decide) ?_
  refine x_iald (v := x4) hx hb hE hP 0 rfl 481 (x_in (by decide)) (by decide) ((pk_un (by decide)).trans pk_us) dX10_setEnvelope_190 ?_
  refine lv_icmp_ne (tgt := 198) hx hb dX10_setEnvelope_191 (by decide) (fun _ => ?_) (fun h => absurd h h61)
  refine lv_iconst (v := 0) hx hb dX10_setEnvelope_198 (by decide) ?_
  refine x_iand (v := 0) hx hb dX10_setEnvelope_199 (by decide) ?_
  refine lv_istore (lv' := [(10, .int 0), (11, .int 2), (9, .int 3), (8, .int 1), (7, .int 479), (6, .int 1), (0, .ref q1), (1, .int 1), (2, .int x2), (3, .int x3), (4, .int x4), (5, .int x5)]) hx hb dX10_setEnvelope_200 hl (by decide) rfl (fun ls hl => ?_)
  refine lv_iinc (v := 3) (lv' := [(11, .int 3), (10, .int 0), (9, .int 3), (8, .int 1), (7, .int 479), (6, .int 1), (0, .ref q1), (1, .int 1), (2, .int x2), (3, .int x3), (4, .int x4), (5, .int x5)]) hx hb dX10_setEnvelope_202 hl (k := 1) rfl (by decide) (by decide) rfl (fun ls hl => ?_)
  refine lv_goto (tgt := 157) hx hb dX10_setEnvelope_205 (by decide) ?_
  refine lv_iload hx hb dX10_setEnvelope_157 (lv_at hl 0 rfl) ?_
  refine lv_iconst (v := 4) hx hb dX10_setEnvelope_159 (by decide) ?_
  refine lv_icmp_ge (tgt := 208) hx hb dX10_setEnvelope_160 (by decide) (fun h => absurd h (by decide)) (fun _ => ?_)
  refine lv_iload hx hb dX10_setEnvelope_163 (lv_at hl 1 rfl) ?_
  refine lv_aload_n hx hb dX10_setEnvelope_165 rfl (lv_at hl 6 rfl) ?_
  refine gf_RX10_9 hx hb hown hE hP 3 rfl rfl dX10_setEnvelope_166 ?_
  refine lv_sipush (v := 474) hx hb dX10_setEnvelope_169 (by decide) ?_
  refine lv_iconst (v := 5) hx hb dX10_setEnvelope_172 (by decide) ?_
  refine lv_iload hx hb dX10_setEnvelope_173 (lv_at hl 2 rfl) ?_
  refine x_imul (v := 15) hx hb dX10_setEnvelope_175 (by decide) ?_
  refine x_iadd (v := 489) hx hb dX10_setEnvelope_176 (by decide) ?_
  refine lv_iload hx hb dX10_setEnvelope_177 (lv_at hl 0 rfl) ?_
  refine x_iadd (v := 492) hx hb dX10_setEnvelope_179 (by decide) ?_
  refine x_iald (v := 0) hx hb hE hP 0 rfl 492 (x_in (by decide)) (by decide) ((pk_un (by decide)).trans ((pk_un (by decide)).trans ((pk_un (by decide)).trans ((pk_un (by decide)).trans hf70)))) dX10_setEnvelope_180 ?_
  refine lv_aload_n hx hb dX10_setEnvelope_181 rfl (lv_at hl 6 rfl) ?_
  refine gf_RX10_9 hx hb hown hE hP 3 rfl rfl dX10_setEnvelope_182 ?_
  refine lv_iload hx hb dX10_setEnvelope_185 (lv_at hl 4 rfl) ?_
  refine lv_iload hx hb dX10_setEnvelope_187 (lv_at hl 0 rfl) ?_
  refine x_iadd (v := 482) hx hb dX10_setEnvelope_189 (by decide) ?_
  refine x_iald (v := x5) hx hb hE hP 0 rfl 482 (x_in (by decide)) (by decide) pk_us dX10_setEnvelope_190 ?_
  refine x_and0 hx hb dX10_setEnvelope_191 dX10_setEnvelope_194 dX10_setEnvelope_195 dX10_setEnvelope_198 dX10_setEnvelope_199 ?_
  refine lv_istore (lv' := [(10, .int 0), (11, .int 3), (9, .int 3), (8, .int 1), (7, .int 479), (6, .int 1), (0, .ref q1), (1, .int 1), (2, .int x2), (3, .int x3), (4, .int x4), (5, .int x5)]) hx hb dX10_setEnvelope_200 hl (by decide) rfl (fun ls hl => ?_)
  refine lv_iinc (v := 4) (lv' := [(11, .int 4), (10, .int 0), (9, .int 3), (8, .int 1), (7, .int 479), (6, .int 1), (0, .ref q1), (1, .int 1), (2, .int x2), (3, .int x3), (4, .int x4), (5, .int x5)]) hx hb dX10_setEnvelope_202 hl (k := 1) rfl (by decide) (by decide) rfl (fun ls hl => ?_)
  refine lv_goto (tgt := 157) hx hb dX10_setEnvelope_205 (by decide) ?_
  refine lv_iload hx hb dX10_setEnvelope_157 (lv_at hl 0 rfl) ?_
  refine lv_iconst (v := 4) hx hb dX10_setEnvelope_159 (by decide) ?_
  refine lv_icmp_ge (tgt := 208) hx hb dX10_setEnvelope_160 (by decide) (fun _ => ?_) (fun h => absurd (by decide) h)
  refine lv_iload hx hb dX10_setEnvelope_208 (lv_at hl 3 rfl) ?_
  refine lv_iload hx hb dX10_setEnvelope_210 (lv_at hl 1 rfl) ?_
  refine lv_if_eq (tgt := 219) hx hb dX10_setEnvelope_212 (by decide) (fun _ => ?_) (fun h => absurd (by decide) h)
  refine lv_iconst (v := 0) hx hb dX10_setEnvelope_219 (by decide) ?_
  refine x_iadd (v := 1) hx hb dX10_setEnvelope_220 (by decide) ?_
  refine lv_istore (lv' := [(8, .int 1), (11, .int 4), (10, .int 0), (9, .int 3), (7, .int 479), (6, .int 1), (0, .ref q1), (1, .int 1), (2, .int x2), (3, .int x3), (4, .int x4), (5, .int x5)]) hx hb dX10_setEnvelope_221 hl (by decide) rfl (fun ls hl => ?_)
  refine lv_iinc (v := 4) (lv' := [(9, .int 4), (8, .int 1), (11, .int 4), (10, .int 0), (7, .int 479), (6, .int 1), (0, .ref q1), (1, .int 1), (2, .int x2), (3, .int x3), (4, .int x4), (5, .int x5)]) hx hb dX10_setEnvelope_223 hl (k := 3) rfl (by decide) (by decide) rfl (fun ls hl => ?_)
  refine lv_goto (tgt := 145) hx hb dX10_setEnvelope_226 (by decide) ?_
  refine lv_iload hx hb dX10_setEnvelope_145 (lv_at hl 0 rfl) ?_
  refine lv_iconst (v := 4) hx hb dX10_setEnvelope_147 (by decide) ?_
  refine lv_icmp_ge (tgt := 229) hx hb dX10_setEnvelope_148 (by decide) (fun _ => ?_) (fun h => absurd (by decide) h)
  refine lv_iload hx hb dX10_setEnvelope_229 (lv_at hl 1 rfl) ?_
  exact x_zret hx hb hr rfl rfl hlocks hP hD hS hAe hsz (Nat.le_of_ble_eq_true rfl) (Nat.le_of_ble_eq_true rfl) (fun _ => 0) [3] (by decide) rfl dX10_setEnvelope_231

set_option maxHeartbeats 4000000 in
set_option maxRecDepth 100000 in
theorem c1966_X6_hasSameEnvelope (l : Launch) (g : gG) (q1 q9 : Nat) (x12 x16 : Int32) (w2 w3 w4 w6 w7 w8 : Value) (f10 : Nat → Int32) (hf11 : f10 5 = x12) (hf13 : f10 0 = 0) (hf15 : f10 6 = x16) (hf17 : f10 1 = 0) (h14 : x12 = 0) (h18 : ¬ x16 = 0) (sz : Nat) : Met l yX6_hasSameEnvelope [Cond.code yX6_hasSameEnvelope cX6_hasSameEnvelope 4 (some .boolean)] ({ frames := 1, cells := 0, slots := 0, locals := 23 } : Room) (va_Pc [.ref q1, .int 1, .int 0] (PX g sz [(q9, .inl (g.2 0, 20, .inl f10)), (q1, .inr (8, [w2, w3, w4, .ref q9, w6, w7, w8]))])) (QI g [(q9, .inl (g.2 0, 20, .inl f10)), (q1, .inr (8, [w2, w3, w4, .ref q9, w6, w7, w8]))] sz 0 (fun _ => [(q9, .inl (g.2 0, 20, .inl f10)), (q1, .inr (8, [w2, w3, w4, .ref q9, w6, w7, w8]))])) 0 0 (va_A [(q9, .inl (g.2 0, 20, .inl f10)), (q1, .inr (8, [w2, w3, w4, .ref q9, w6, w7, w8]))] sz) := by
  refine ofN (by decide) (Nat.le_of_ble_eq_true rfl) rfl ?_
  intro p e s m args below meth c A ls hAe hsz hx hb hml hr hlocks hin hown hE hP hD hA hS hl
  have hown : s.vm.findClass RX6 = some m.cls := hown
  refine lv_iconst (v := 0) hx hb dX6_hasSameEnvelope_0 (by decide) ?_
  refine lv_istore_n (lv' := [(3, .int 0), (0, .ref q1), (1, .int 1), (2, .int 0)]) hx hb dX6_hasSameEnvelope_1 rfl hl (by decide) rfl (fun ls hl => ?_)
  refine lv_iload_n hx hb dX6_hasSameEnvelope_2 rfl (lv_at hl 0 rfl) ?_
  refine lv_iconst (v := 3) hx hb dX6_hasSameEnvelope_3 (by decide) ?_
  refine lv_icmp_gt (tgt := 30) hx hb dX6_hasSameEnvelope_4 (by decide) (fun h => absurd h (by decide)) (fun _ => ?_)
  refine lv_aload_n hx hb dX6_hasSameEnvelope_7 rfl (lv_at hl 1 rfl) ?_
  refine lv_iload_n hx hb dX6_hasSameEnvelope_8 rfl (lv_at hl 2 rfl) ?_
  refine lv_iload_n hx hb dX6_hasSameEnvelope_9 rfl (lv_at hl 0 rfl) ?_
  refine g_i (wr := []) (rV (rest := []) hx hb hml hown hE hP hD 1 rfl rfl (c1940_X6_instrumentNumber l g q1 q9 x12 w2 w3 w4 w6 w7 w8 f10 (hf11) s.heap.size) (kV_X6_instrumentNumber hE (e462 hE) rfl rfl ⟨(Nat.le_of_ble_eq_true rfl), (Nat.le_of_ble_eq_true rfl)⟩) [0, 1] rfl (by decide) rfl hl.1 rfl (lv_room (Nat.le_of_ble_eq_true rfl)) dX6_hasSameEnvelope_10 ⟨(Nat.le_of_ble_eq_true rfl), (Nat.le_of_ble_eq_true rfl)⟩) hP hD hS hA [0, 1] [] rfl rfl (by decide) (by decide) (fun u1 H locs hP hD hS => ?_)
  have hP : va_P g.1 vwCl [(q9, .inl (g.2 0, 20, .inl f10)), (q1, .inr (8, [w2, w3, w4, .ref q9, w6, w7, w8]))] H := hP
  have hD : va_D A [(q9, .inl (g.2 0, 20, .inl f10)), (q1, .inr (8, [w2, w3, w4, .ref q9, w6, w7, w8]))] := hD
  refine lv_aload_n hx hb dX6_hasSameEnvelope_13 rfl (lv_at hl 1 rfl) ?_
  refine lv_iload_n hx hb dX6_hasSameEnvelope_14 rfl (lv_at hl 3 rfl) ?_
  refine lv_iload_n hx hb dX6_hasSameEnvelope_15 rfl (lv_at hl 0 rfl) ?_
  refine g_i (wr := []) (rV (rest := [.int x12]) hx hb hml hown hE hP hD 1 rfl rfl (c1879_X6_instrumentNumber l g q1 q9 0 w2 w3 w4 w6 w7 w8 f10 (hf13) H.size) (kV_X6_instrumentNumber hE (e462 hE) rfl rfl ⟨(Nat.le_of_ble_eq_true rfl), (Nat.le_of_ble_eq_true rfl)⟩) [0, 1] rfl (by decide) rfl hl.1 rfl (lv_room (Nat.le_of_ble_eq_true rfl)) dX6_hasSameEnvelope_16 ⟨(Nat.le_of_ble_eq_true rfl), (Nat.le_of_ble_eq_true rfl)⟩) hP hD hS hA [0, 1] [] rfl rfl (by decide) (by decide) (fun u2 H locs hP hD hS => ?_)
  have hP : va_P g.1 vwCl [(q9, .inl (g.2 0, 20, .inl f10)), (q1, .inr (8, [w2, w3, w4, .ref q9, w6, w7, w8]))] H := hP
  have hD : va_D A [(q9, .inl (g.2 0, 20, .inl f10)), (q1, .inr (8, [w2, w3, w4, .ref q9, w6, w7, w8]))] := hD
  refine lv_icmp_eq (tgt := 24) hx hb dX6_hasSameEnvelope_19 (by decide) (fun _ => ?_) (fun h => absurd h14 h)
  refine lv_iinc (v := 1) (lv' := [(3, .int 1), (0, .ref q1), (1, .int 1), (2, .int 0)]) hx hb dX6_hasSameEnvelope_24 hl (k := 0) rfl (by decide) (by decide) rfl (fun ls hl => ?_)
  refine lv_goto (tgt := 2) hx hb dX6_hasSameEnvelope_27 (by decide) ?_
  refine lv_iload_n hx hb dX6_hasSameEnvelope_2 rfl (lv_at hl 0 rfl) ?_
  refine lv_iconst (v := 3) hx hb dX6_hasSameEnvelope_3 (by decide) ?_
  refine lv_icmp_gt (tgt := 30) hx hb dX6_hasSameEnvelope_4 (by decide) (fun h => absurd h (by decide)) (fun _ => ?_)
  refine lv_aload_n hx hb dX6_hasSameEnvelope_7 rfl (lv_at hl 1 rfl) ?_
  refine lv_iload_n hx hb dX6_hasSameEnvelope_8 rfl (lv_at hl 2 rfl) ?_
  refine lv_iload_n hx hb dX6_hasSameEnvelope_9 rfl (lv_at hl 0 rfl) ?_
  refine g_i (wr := []) (rV (rest := []) hx hb hml hown hE hP hD 1 rfl rfl (c1941_X6_instrumentNumber l g q1 q9 x16 w2 w3 w4 w6 w7 w8 f10 (hf15) H.size) (kV_X6_instrumentNumber hE (e462 hE) rfl rfl ⟨(Nat.le_of_ble_eq_true rfl), (Nat.le_of_ble_eq_true rfl)⟩) [0, 1] rfl (by decide) rfl hl.1 rfl (lv_room (Nat.le_of_ble_eq_true rfl)) dX6_hasSameEnvelope_10 ⟨(Nat.le_of_ble_eq_true rfl), (Nat.le_of_ble_eq_true rfl)⟩) hP hD hS hA [0, 1] [] rfl rfl (by decide) (by decide) (fun u3 H locs hP hD hS => ?_)
  have hP : va_P g.1 vwCl [(q9, .inl (g.2 0, 20, .inl f10)), (q1, .inr (8, [w2, w3, w4, .ref q9, w6, w7, w8]))] H := hP
  have hD : va_D A [(q9, .inl (g.2 0, 20, .inl f10)), (q1, .inr (8, [w2, w3, w4, .ref q9, w6, w7, w8]))] := hD
  refine lv_aload_n hx hb dX6_hasSameEnvelope_13 rfl (lv_at hl 1 rfl) ?_
  refine lv_iload_n hx hb dX6_hasSameEnvelope_14 rfl (lv_at hl 3 rfl) ?_
  refine lv_iload_n hx hb dX6_hasSameEnvelope_15 rfl (lv_at hl 0 rfl) ?_
  refine g_i (wr := []) (rV (rest := [.int x16]) hx hb hml hown hE hP hD 1 rfl rfl (c1880_X6_instrumentNumber l g q1 q9 0 w2 w3 w4 w6 w7 w8 f10 (hf17) H.size) (kV_X6_instrumentNumber hE (e462 hE) rfl rfl ⟨(Nat.le_of_ble_eq_true rfl), (Nat.le_of_ble_eq_true rfl)⟩) [0, 1] rfl (by decide) rfl hl.1 rfl (lv_room (Nat.le_of_ble_eq_true rfl)) dX6_hasSameEnvelope_16 ⟨(Nat.le_of_ble_eq_true rfl), (Nat.le_of_ble_eq_true rfl)⟩) hP hD hS hA [0, 1] [] rfl rfl (by decide) (by decide) (fun u4 H locs hP hD hS => ?_)
  have hP : va_P g.1 vwCl [(q9, .inl (g.2 0, 20, .inl f10)), (q1, .inr (8, [w2, w3, w4, .ref q9, w6, w7, w8]))] H := hP
  have hD : va_D A [(q9, .inl (g.2 0, 20, .inl f10)), (q1, .inr (8, [w2, w3, w4, .ref q9, w6, w7, w8]))] := hD
  refine lv_icmp_eq (tgt := 24) hx hb dX6_hasSameEnvelope_19 (by decide) (fun h => absurd h h18) (fun _ => ?_)
  refine lv_iconst (v := 0) hx hb dX6_hasSameEnvelope_22 (by decide) ?_
  exact x_zret hx hb hr rfl rfl hlocks hP hD hS hAe hsz (Nat.le_of_ble_eq_true rfl) (Nat.le_of_ble_eq_true rfl) (fun _ => 0) [0, 1] (by decide) rfl dX6_hasSameEnvelope_23

set_option maxHeartbeats 4000000 in
set_option maxRecDepth 100000 in
theorem c1967_X6_hasSameEnvelope (l : Launch) (g : gG) (q1 q9 : Nat) (x12 x16 : Int32) (w2 w3 w4 w6 w7 w8 : Value) (f10 : Nat → Int32) (hf11 : f10 5 = x12) (hf13 : f10 10 = 0) (hf15 : f10 6 = x16) (hf17 : f10 11 = 0) (h14 : x12 = 0) (h18 : ¬ x16 = 0) (sz : Nat) : Met l yX6_hasSameEnvelope [Cond.code yX6_hasSameEnvelope cX6_hasSameEnvelope 4 (some .boolean)] ({ frames := 1, cells := 0, slots := 0, locals := 23 } : Room) (va_Pc [.ref q1, .int 1, .int 2] (PX g sz [(q9, .inl (g.2 0, 20, .inl f10)), (q1, .inr (8, [w2, w3, w4, .ref q9, w6, w7, w8]))])) (QI g [(q9, .inl (g.2 0, 20, .inl f10)), (q1, .inr (8, [w2, w3, w4, .ref q9, w6, w7, w8]))] sz 0 (fun _ => [(q9, .inl (g.2 0, 20, .inl f10)), (q1, .inr (8, [w2, w3, w4, .ref q9, w6, w7, w8]))])) 0 0 (va_A [(q9, .inl (g.2 0, 20, .inl f10)), (q1, .inr (8, [w2, w3, w4, .ref q9, w6, w7, w8]))] sz) := by
  refine ofN (by decide) (Nat.le_of_ble_eq_true rfl) rfl ?_
  intro p e s m args below meth c A ls hAe hsz hx hb hml hr hlocks hin hown hE hP hD hA hS hl
  have hown : s.vm.findClass RX6 = some m.cls := hown
  refine lv_iconst (v := 0) hx hb dX6_hasSameEnvelope_0 (by decide) ?_
  refine lv_istore_n (lv' := [(3, .int 0), (0, .ref q1), (1, .int 1), (2, .int 2)]) hx hb dX6_hasSameEnvelope_1 rfl hl (by decide) rfl (fun ls hl => ?_)
  refine lv_iload_n hx hb dX6_hasSameEnvelope_2 rfl (lv_at hl 0 rfl) ?_
  refine lv_iconst (v := 3) hx hb dX6_hasSameEnvelope_3 (by decide) ?_
  refine lv_icmp_gt (tgt := 30) hx hb dX6_hasSameEnvelope_4 (by decide) (fun h => absurd h (by decide)) (fun _ => ?_)
  refine lv_aload_n hx hb dX6_hasSameEnvelope_7 rfl (lv_at hl 1 rfl) ?_
  refine lv_iload_n hx hb dX6_hasSameEnvelope_8 rfl (lv_at hl 2 rfl) ?_
  refine lv_iload_n hx hb dX6_hasSameEnvelope_9 rfl (lv_at hl 0 rfl) ?_
  refine g_i (wr := []) (rV (rest := []) hx hb hml hown hE hP hD 1 rfl rfl (c1940_X6_instrumentNumber l g q1 q9 x12 w2 w3 w4 w6 w7 w8 f10 (hf11) s.heap.size) (kV_X6_instrumentNumber hE (e462 hE) rfl rfl ⟨(Nat.le_of_ble_eq_true rfl), (Nat.le_of_ble_eq_true rfl)⟩) [0, 1] rfl (by decide) rfl hl.1 rfl (lv_room (Nat.le_of_ble_eq_true rfl)) dX6_hasSameEnvelope_10 ⟨(Nat.le_of_ble_eq_true rfl), (Nat.le_of_ble_eq_true rfl)⟩) hP hD hS hA [0, 1] [] rfl rfl (by decide) (by decide) (fun u1 H locs hP hD hS => ?_)
  have hP : va_P g.1 vwCl [(q9, .inl (g.2 0, 20, .inl f10)), (q1, .inr (8, [w2, w3, w4, .ref q9, w6, w7, w8]))] H := hP
  have hD : va_D A [(q9, .inl (g.2 0, 20, .inl f10)), (q1, .inr (8, [w2, w3, w4, .ref q9, w6, w7, w8]))] := hD
  refine lv_aload_n hx hb dX6_hasSameEnvelope_13 rfl (lv_at hl 1 rfl) ?_
  refine lv_iload_n hx hb dX6_hasSameEnvelope_14 rfl (lv_at hl 3 rfl) ?_
  refine lv_iload_n hx hb dX6_hasSameEnvelope_15 rfl (lv_at hl 0 rfl) ?_
  refine g_i (wr := []) (rV (rest := [.int x12]) hx hb hml hown hE hP hD 1 rfl rfl (c1889_X6_instrumentNumber l g q1 q9 w2 w3 w4 w6 w7 w8 f10 (hf13) H.size) (kV_X6_instrumentNumber hE (e462 hE) rfl rfl ⟨(Nat.le_of_ble_eq_true rfl), (Nat.le_of_ble_eq_true rfl)⟩) [0, 1] rfl (by decide) rfl hl.1 rfl (lv_room (Nat.le_of_ble_eq_true rfl)) dX6_hasSameEnvelope_16 ⟨(Nat.le_of_ble_eq_true rfl), (Nat.le_of_ble_eq_true rfl)⟩) hP hD hS hA [0, 1] [] rfl rfl (by decide) (by decide) (fun u2 H locs hP hD hS => ?_)
  have hP : va_P g.1 vwCl [(q9, .inl (g.2 0, 20, .inl f10)), (q1, .inr (8, [w2, w3, w4, .ref q9, w6, w7, w8]))] H := hP
  have hD : va_D A [(q9, .inl (g.2 0, 20, .inl f10)), (q1, .inr (8, [w2, w3, w4, .ref q9, w6, w7, w8]))] := hD
  refine lv_icmp_eq (tgt := 24) hx hb dX6_hasSameEnvelope_19 (by decide) (fun _ => ?_) (fun h => absurd h14 h)
  refine lv_iinc (v := 1) (lv' := [(3, .int 1), (0, .ref q1), (1, .int 1), (2, .int 2)]) hx hb dX6_hasSameEnvelope_24 hl (k := 0) rfl (by decide) (by decide) rfl (fun ls hl => ?_)
  refine lv_goto (tgt := 2) hx hb dX6_hasSameEnvelope_27 (by decide) ?_
  refine lv_iload_n hx hb dX6_hasSameEnvelope_2 rfl (lv_at hl 0 rfl) ?_
  refine lv_iconst (v := 3) hx hb dX6_hasSameEnvelope_3 (by decide) ?_
  refine lv_icmp_gt (tgt := 30) hx hb dX6_hasSameEnvelope_4 (by decide) (fun h => absurd h (by decide)) (fun _ => ?_)
  refine lv_aload_n hx hb dX6_hasSameEnvelope_7 rfl (lv_at hl 1 rfl) ?_
  refine lv_iload_n hx hb dX6_hasSameEnvelope_8 rfl (lv_at hl 2 rfl) ?_
  refine lv_iload_n hx hb dX6_hasSameEnvelope_9 rfl (lv_at hl 0 rfl) ?_
  refine g_i (wr := []) (rV (rest := []) hx hb hml hown hE hP hD 1 rfl rfl (c1941_X6_instrumentNumber l g q1 q9 x16 w2 w3 w4 w6 w7 w8 f10 (hf15) H.size) (kV_X6_instrumentNumber hE (e462 hE) rfl rfl ⟨(Nat.le_of_ble_eq_true rfl), (Nat.le_of_ble_eq_true rfl)⟩) [0, 1] rfl (by decide) rfl hl.1 rfl (lv_room (Nat.le_of_ble_eq_true rfl)) dX6_hasSameEnvelope_10 ⟨(Nat.le_of_ble_eq_true rfl), (Nat.le_of_ble_eq_true rfl)⟩) hP hD hS hA [0, 1] [] rfl rfl (by decide) (by decide) (fun u3 H locs hP hD hS => ?_)
  have hP : va_P g.1 vwCl [(q9, .inl (g.2 0, 20, .inl f10)), (q1, .inr (8, [w2, w3, w4, .ref q9, w6, w7, w8]))] H := hP
  have hD : va_D A [(q9, .inl (g.2 0, 20, .inl f10)), (q1, .inr (8, [w2, w3, w4, .ref q9, w6, w7, w8]))] := hD
  refine lv_aload_n hx hb dX6_hasSameEnvelope_13 rfl (lv_at hl 1 rfl) ?_
  refine lv_iload_n hx hb dX6_hasSameEnvelope_14 rfl (lv_at hl 3 rfl) ?_
  refine lv_iload_n hx hb dX6_hasSameEnvelope_15 rfl (lv_at hl 0 rfl) ?_
  refine g_i (wr := []) (rV (rest := [.int x16]) hx hb hml hown hE hP hD 1 rfl rfl (c1890_X6_instrumentNumber l g q1 q9 w2 w3 w4 w6 w7 w8 f10 (hf17) H.size) (kV_X6_instrumentNumber hE (e462 hE) rfl rfl ⟨(Nat.le_of_ble_eq_true rfl), (Nat.le_of_ble_eq_true rfl)⟩) [0, 1] rfl (by decide) rfl hl.1 rfl (lv_room (Nat.le_of_ble_eq_true rfl)) dX6_hasSameEnvelope_16 ⟨(Nat.le_of_ble_eq_true rfl), (Nat.le_of_ble_eq_true rfl)⟩) hP hD hS hA [0, 1] [] rfl rfl (by decide) (by decide) (fun u4 H locs hP hD hS => ?_)
  have hP : va_P g.1 vwCl [(q9, .inl (g.2 0, 20, .inl f10)), (q1, .inr (8, [w2, w3, w4, .ref q9, w6, w7, w8]))] H := hP
  have hD : va_D A [(q9, .inl (g.2 0, 20, .inl f10)), (q1, .inr (8, [w2, w3, w4, .ref q9, w6, w7, w8]))] := hD
  refine lv_icmp_eq (tgt := 24) hx hb dX6_hasSameEnvelope_19 (by decide) (fun h => absurd h h18) (fun _ => ?_)
  refine lv_iconst (v := 0) hx hb dX6_hasSameEnvelope_22 (by decide) ?_
  exact x_zret hx hb hr rfl rfl hlocks hP hD hS hAe hsz (Nat.le_of_ble_eq_true rfl) (Nat.le_of_ble_eq_true rfl) (fun _ => 0) [0, 1] (by decide) rfl dX6_hasSameEnvelope_23

set_option maxHeartbeats 4000000 in
set_option maxRecDepth 100000 in
theorem c1968_X6_hasSameEnvelope (l : Launch) (g : gG) (q1 q9 : Nat) (x12 x16 : Int32) (w2 w3 w4 w6 w7 w8 : Value) (f10 : Nat → Int32) (hf11 : f10 5 = x12) (hf13 : f10 15 = 0) (hf15 : f10 6 = x16) (hf17 : f10 16 = 0) (h14 : x12 = 0) (h18 : ¬ x16 = 0) (sz : Nat) : Met l yX6_hasSameEnvelope [Cond.code yX6_hasSameEnvelope cX6_hasSameEnvelope 4 (some .boolean)] ({ frames := 1, cells := 0, slots := 0, locals := 23 } : Room) (va_Pc [.ref q1, .int 1, .int 3] (PX g sz [(q9, .inl (g.2 0, 20, .inl f10)), (q1, .inr (8, [w2, w3, w4, .ref q9, w6, w7, w8]))])) (QI g [(q9, .inl (g.2 0, 20, .inl f10)), (q1, .inr (8, [w2, w3, w4, .ref q9, w6, w7, w8]))] sz 0 (fun _ => [(q9, .inl (g.2 0, 20, .inl f10)), (q1, .inr (8, [w2, w3, w4, .ref q9, w6, w7, w8]))])) 0 0 (va_A [(q9, .inl (g.2 0, 20, .inl f10)), (q1, .inr (8, [w2, w3, w4, .ref q9, w6, w7, w8]))] sz) := by
  refine ofN (by decide) (Nat.le_of_ble_eq_true rfl) rfl ?_
  intro p e s m args below meth c A ls hAe hsz hx hb hml hr hlocks hin hown hE hP hD hA hS hl
  have hown : s.vm.findClass RX6 = some m.cls := hown
  refine lv_iconst (v := 0) hx hb dX6_hasSameEnvelope_0 (by decide) ?_
  refine lv_istore_n (lv' := [(3, .int 0), (0, .ref q1), (1, .int 1), (2, .int 3)]) hx hb dX6_hasSameEnvelope_1 rfl hl (by decide) rfl (fun ls hl => ?_)
  refine lv_iload_n hx hb dX6_hasSameEnvelope_2 rfl (lv_at hl 0 rfl) ?_
  refine lv_iconst (v := 3) hx hb dX6_hasSameEnvelope_3 (by decide) ?_
  refine lv_icmp_gt (tgt := 30) hx hb dX6_hasSameEnvelope_4 (by decide) (fun h => absurd h (by decide)) (fun _ => ?_)
  refine lv_aload_n hx hb dX6_hasSameEnvelope_7 rfl (lv_at hl 1 rfl) ?_
  refine lv_iload_n hx hb dX6_hasSameEnvelope_8 rfl (lv_at hl 2 rfl) ?_
  refine lv_iload_n hx hb dX6_hasSameEnvelope_9 rfl (lv_at hl 0 rfl) ?_
  refine g_i (wr := []) (rV (rest := []) hx hb hml hown hE hP hD 1 rfl rfl (c1940_X6_instrumentNumber l g q1 q9 x12 w2 w3 w4 w6 w7 w8 f10 (hf11) s.heap.size) (kV_X6_instrumentNumber hE (e462 hE) rfl rfl ⟨(Nat.le_of_ble_eq_true rfl), (Nat.le_of_ble_eq_true rfl)⟩) [0, 1] rfl (by decide) rfl hl.1 rfl (lv_room (Nat.le_of_ble_eq_true rfl)) dX6_hasSameEnvelope_10 ⟨(Nat.le_of_ble_eq_true rfl), (Nat.le_of_ble_eq_true rfl)⟩) hP hD hS hA [0, 1] [] rfl rfl (by decide) (by decide) (fun u1 H locs hP hD hS => ?_)
  have hP : va_P g.1 vwCl [(q9, .inl (g.2 0, 20, .inl f10)), (q1, .inr (8, [w2, w3, w4, .ref q9, w6, w7, w8]))] H := hP
  have hD : va_D A [(q9, .inl (g.2 0, 20, .inl f10)), (q1, .inr (8, [w2, w3, w4, .ref q9, w6, w7, w8]))] := hD
  refine lv_aload_n hx hb dX6_hasSameEnvelope_13 rfl (lv_at hl 1 rfl) ?_
  refine lv_iload_n hx hb dX6_hasSameEnvelope_14 rfl (lv_at hl 3 rfl) ?_
  refine lv_iload_n hx hb dX6_hasSameEnvelope_15 rfl (lv_at hl 0 rfl) ?_
  refine g_i (wr := []) (rV (rest := [.int x12]) hx hb hml hown hE hP hD 1 rfl rfl (c1894_X6_instrumentNumber l g q1 q9 w2 w3 w4 w6 w7 w8 f10 (hf13) H.size) (kV_X6_instrumentNumber hE (e462 hE) rfl rfl ⟨(Nat.le_of_ble_eq_true rfl), (Nat.le_of_ble_eq_true rfl)⟩) [0, 1] rfl (by decide) rfl hl.1 rfl (lv_room (Nat.le_of_ble_eq_true rfl)) dX6_hasSameEnvelope_16 ⟨(Nat.le_of_ble_eq_true rfl), (Nat.le_of_ble_eq_true rfl)⟩) hP hD hS hA [0, 1] [] rfl rfl (by decide) (by decide) (fun u2 H locs hP hD hS => ?_)
  have hP : va_P g.1 vwCl [(q9, .inl (g.2 0, 20, .inl f10)), (q1, .inr (8, [w2, w3, w4, .ref q9, w6, w7, w8]))] H := hP
  have hD : va_D A [(q9, .inl (g.2 0, 20, .inl f10)), (q1, .inr (8, [w2, w3, w4, .ref q9, w6, w7, w8]))] := hD
  refine lv_icmp_eq (tgt := 24) hx hb dX6_hasSameEnvelope_19 (by decide) (fun _ => ?_) (fun h => absurd h14 h)
  refine lv_iinc (v := 1) (lv' := [(3, .int 1), (0, .ref q1), (1, .int 1), (2, .int 3)]) hx hb dX6_hasSameEnvelope_24 hl (k := 0) rfl (by decide) (by decide) rfl (fun ls hl => ?_)
  refine lv_goto (tgt := 2) hx hb dX6_hasSameEnvelope_27 (by decide) ?_
  refine lv_iload_n hx hb dX6_hasSameEnvelope_2 rfl (lv_at hl 0 rfl) ?_
  refine lv_iconst (v := 3) hx hb dX6_hasSameEnvelope_3 (by decide) ?_
  refine lv_icmp_gt (tgt := 30) hx hb dX6_hasSameEnvelope_4 (by decide) (fun h => absurd h (by decide)) (fun _ => ?_)
  refine lv_aload_n hx hb dX6_hasSameEnvelope_7 rfl (lv_at hl 1 rfl) ?_
  refine lv_iload_n hx hb dX6_hasSameEnvelope_8 rfl (lv_at hl 2 rfl) ?_
  refine lv_iload_n hx hb dX6_hasSameEnvelope_9 rfl (lv_at hl 0 rfl) ?_
  refine g_i (wr := []) (rV (rest := []) hx hb hml hown hE hP hD 1 rfl rfl (c1941_X6_instrumentNumber l g q1 q9 x16 w2 w3 w4 w6 w7 w8 f10 (hf15) H.size) (kV_X6_instrumentNumber hE (e462 hE) rfl rfl ⟨(Nat.le_of_ble_eq_true rfl), (Nat.le_of_ble_eq_true rfl)⟩) [0, 1] rfl (by decide) rfl hl.1 rfl (lv_room (Nat.le_of_ble_eq_true rfl)) dX6_hasSameEnvelope_10 ⟨(Nat.le_of_ble_eq_true rfl), (Nat.le_of_ble_eq_true rfl)⟩) hP hD hS hA [0, 1] [] rfl rfl (by decide) (by decide) (fun u3 H locs hP hD hS => ?_)
  have hP : va_P g.1 vwCl [(q9, .inl (g.2 0, 20, .inl f10)), (q1, .inr (8, [w2, w3, w4, .ref q9, w6, w7, w8]))] H := hP
  have hD : va_D A [(q9, .inl (g.2 0, 20, .inl f10)), (q1, .inr (8, [w2, w3, w4, .ref q9, w6, w7, w8]))] := hD
  refine lv_aload_n hx hb dX6_hasSameEnvelope_13 rfl (lv_at hl 1 rfl) ?_
  refine lv_iload_n hx hb dX6_hasSameEnvelope_14 rfl (lv_at hl 3 rfl) ?_
  refine lv_iload_n hx hb dX6_hasSameEnvelope_15 rfl (lv_at hl 0 rfl) ?_
  refine g_i (wr := []) (rV (rest := [.int x16]) hx hb hml hown hE hP hD 1 rfl rfl (c1895_X6_instrumentNumber l g q1 q9 w2 w3 w4 w6 w7 w8 f10 (hf17) H.size) (kV_X6_instrumentNumber hE (e462 hE) rfl rfl ⟨(Nat.le_of_ble_eq_true rfl), (Nat.le_of_ble_eq_true rfl)⟩) [0, 1] rfl (by decide) rfl hl.1 rfl (lv_room (Nat.le_of_ble_eq_true rfl)) dX6_hasSameEnvelope_16 ⟨(Nat.le_of_ble_eq_true rfl), (Nat.le_of_ble_eq_true rfl)⟩) hP hD hS hA [0, 1] [] rfl rfl (by decide) (by decide) (fun u4 H locs hP hD hS => ?_)
  have hP : va_P g.1 vwCl [(q9, .inl (g.2 0, 20, .inl f10)), (q1, .inr (8, [w2, w3, w4, .ref q9, w6, w7, w8]))] H := hP
  have hD : va_D A [(q9, .inl (g.2 0, 20, .inl f10)), (q1, .inr (8, [w2, w3, w4, .ref q9, w6, w7, w8]))] := hD
  refine lv_icmp_eq (tgt := 24) hx hb dX6_hasSameEnvelope_19 (by decide) (fun h => absurd h h18) (fun _ => ?_)
  refine lv_iconst (v := 0) hx hb dX6_hasSameEnvelope_22 (by decide) ?_
  exact x_zret hx hb hr rfl rfl hlocks hP hD hS hAe hsz (Nat.le_of_ble_eq_true rfl) (Nat.le_of_ble_eq_true rfl) (fun _ => 0) [0, 1] (by decide) rfl dX6_hasSameEnvelope_23

set_option maxHeartbeats 4000000 in
set_option maxRecDepth 100000 in
theorem c1969_X6_countSameEnvelopes (l : Launch) (g : gG) (q1 q9 : Nat) (x12 x15 x18 x21 : Int32) (w2 w3 w4 w6 w7 w8 : Value) (f10 : Nat → Int32) (hf11 : f10 5 = x12) (hf13 : f10 0 = 0) (hf14 : f10 6 = x15) (hf16 : f10 1 = 0) (hf17 : f10 7 = x18) (hf19 : f10 2 = 100) (hf20 : f10 8 = x21) (hf22 : f10 3 = 0) (hf25 : f10 10 = 0) (hf26 : f10 11 = 0) (hf27 : f10 12 = 100) (hf28 : f10 13 = 0) (hf29 : f10 15 = 0) (hf30 : f10 16 = 0) (hf31 : f10 17 = 100) (hf32 : f10 18 = 0) (h23 : x12 = 0) (h24 : ¬ x15 = 0) (sz : Nat) : Met l yX6_countSameEnvelopes [Cond.code yX6_countSameEnvelopes cX6_countSameEnvelopes 4 (some .int)] ({ frames := 2, cells := 0, slots := 0, locals := 46 } : Room) (va_Pc [.ref q1, .int 1] (PX g sz [(q9, .inl (g.2 0, 20, .inl f10)), (q1, .inr (8, [w2, w3, w4, .ref q9, w6, w7, w8]))])) (QI g [(q9, .inl (g.2 0, 20, .inl f10)), (q1, .inr (8, [w2, w3, w4, .ref q9, w6, w7, w8]))] sz 1 (fun _ => [(q9, .inl (g.2 0, 20, .inl f10)), (q1, .inr (8, [w2, w3, w4, .ref q9, w6, w7, w8]))])) 0 0 (va_A [(q9, .inl (g.2 0, 20, .inl f10)), (q1, .inr (8, [w2, w3, w4, .ref q9, w6, w7, w8]))] sz) := by
  refine ofN (by decide) (Nat.le_of_ble_eq_true rfl) rfl ?_
  intro p e s m args below meth c A ls hAe hsz hx hb hml hr hlocks hin hown hE hP hD hA hS hl
  have hown : s.vm.findClass RX6 = some m.cls := hown
  refine lv_iconst (v := 0) hx hb dX6_countSameEnvelopes_0 (by decide) ?_
  refine lv_istore_n (lv' := [(2, .int 0), (0, .ref q1), (1, .int 1)]) hx hb dX6_countSameEnvelopes_1 rfl hl (by decide) rfl (fun ls hl => ?_)
  refine lv_iconst (v := 0) hx hb dX6_countSameEnvelopes_2 (by decide) ?_
  refine lv_istore_n (lv' := [(3, .int 0), (2, .int 0), (0, .ref q1), (1, .int 1)]) hx hb dX6_countSameEnvelopes_3 rfl hl (by decide) rfl (fun ls hl => ?_)
  refine lv_iload_n hx hb dX6_countSameEnvelopes_4 rfl (lv_at hl 0 rfl) ?_
  refine lv_iconst (v := 4) hx hb dX6_countSameEnvelopes_5 (by decide) ?_
  refine lv_icmp_ge (tgt := 27) hx hb dX6_countSameEnvelopes_6 (by decide) (fun h => absurd h (by decide)) (fun _ => ?_)
  refine lv_aload_n hx hb dX6_countSameEnvelopes_9 rfl (lv_at hl 2 rfl) ?_
  refine lv_iload_n hx hb dX6_countSameEnvelopes_10 rfl (lv_at hl 3 rfl) ?_
  refine lv_iload_n hx hb dX6_countSameEnvelopes_11 rfl (lv_at hl 0 rfl) ?_
  refine g_i (wr := []) (rV (rest := []) hx hb hml hown hE hP hD 1 rfl rfl (c1966_X6_hasSameEnvelope l g q1 q9 x12 x15 w2 w3 w4 w6 w7 w8 f10 (hf11) (hf13) (hf14) (hf16) h23 h24 s.heap.size) (kV_X6_hasSameEnvelope hE (e999 hE) rfl rfl ⟨(Nat.le_of_ble_eq_true rfl), (Nat.le_of_ble_eq_true rfl)⟩) [0, 1] rfl (by decide) rfl hl.1 rfl (lv_room (Nat.le_of_ble_eq_true rfl)) dX6_countSameEnvelopes_12 ⟨(Nat.le_of_ble_eq_true rfl), (Nat.le_of_ble_eq_true rfl)⟩) hP hD hS hA [0, 1] [] rfl rfl (by decide) (by decide) (fun u1 H locs hP hD hS => ?_)
  have hP : va_P g.1 vwCl [(q9, .inl (g.2 0, 20, .inl f10)), (q1, .inr (8, [w2, w3, w4, .ref q9, w6, w7, w8]))] H := hP
  have hD : va_D A [(q9, .inl (g.2 0, 20, .inl f10)), (q1, .inr (8, [w2, w3, w4, .ref q9, w6, w7, w8]))] := hD
  refine lv_if_eq (tgt := 21) hx hb dX6_countSameEnvelopes_15 (by decide) (fun _ => ?_) (fun h => absurd (by decide) h)
  refine lv_iinc (v := 1) (lv' := [(3, .int 1), (2, .int 0), (0, .ref q1), (1, .int 1)]) hx hb dX6_countSameEnvelopes_21 hl (k := 0) rfl (by decide) (by decide) rfl (fun ls hl => ?_)
  refine lv_goto (tgt := 4) hx hb dX6_countSameEnvelopes_24 (by decide) ?_
  refine lv_iload_n hx hb dX6_countSameEnvelopes_4 rfl (lv_at hl 0 rfl) ?_
  refine lv_iconst (v := 4) hx hb dX6_countSameEnvelopes_5 (by decide) ?_
  refine lv_icmp_ge (tgt := 27) hx hb dX6_countSameEnvelopes_6 (by decide) (fun h => absurd h (by decide)) (fun _ => ?_)
  refine lv_aload_n hx hb dX6_countSameEnvelopes_9 rfl (lv_at hl 2 rfl) ?_
  refine lv_iload_n hx hb dX6_countSameEnvelopes_10 rfl (lv_at hl 3 rfl) ?_
  refine lv_iload_n hx hb dX6_countSameEnvelopes_11 rfl (lv_at hl 0 rfl) ?_
  refine g_i (wr := []) (rV (rest := []) hx hb hml hown hE hP hD 1 rfl rfl (c1945_X6_hasSameEnvelope l g q1 q9 x12 x15 x18 x21 w2 w3 w4 w6 w7 w8 f10 (hf11) (hf14) (hf17) (hf20) H.size) (kV_X6_hasSameEnvelope hE (e999 hE) rfl rfl ⟨(Nat.le_of_ble_eq_true rfl), (Nat.le_of_ble_eq_true rfl)⟩) [0, 1] rfl (by decide) rfl hl.1 rfl (lv_room (Nat.le_of_ble_eq_true rfl)) dX6_countSameEnvelopes_12 ⟨(Nat.le_of_ble_eq_true rfl), (Nat.le_of_ble_eq_true rfl)⟩) hP hD hS hA [0, 1] [] rfl rfl (by decide) (by decide) (fun u2 H locs hP hD hS => ?_)
  have hP : va_P g.1 vwCl [(q9, .inl (g.2 0, 20, .inl f10)), (q1, .inr (8, [w2, w3, w4, .ref q9, w6, w7, w8]))] H := hP
  have hD : va_D A [(q9, .inl (g.2 0, 20, .inl f10)), (q1, .inr (8, [w2, w3, w4, .ref q9, w6, w7, w8]))] := hD
  refine lv_if_eq (tgt := 21) hx hb dX6_countSameEnvelopes_15 (by decide) (fun h => absurd h (by decide)) (fun _ => ?_)
  refine lv_iinc (v := 1) (lv' := [(2, .int 1), (3, .int 1), (0, .ref q1), (1, .int 1)]) hx hb dX6_countSameEnvelopes_18 hl (k := 1) rfl (by decide) (by decide) rfl (fun ls hl => ?_)
  refine lv_iinc (v := 2) (lv' := [(3, .int 2), (2, .int 1), (0, .ref q1), (1, .int 1)]) hx hb dX6_countSameEnvelopes_21 hl (k := 1) rfl (by decide) (by decide) rfl (fun ls hl => ?_)
  refine lv_goto (tgt := 4) hx hb dX6_countSameEnvelopes_24 (by decide) ?_
  refine lv_iload_n hx hb dX6_countSameEnvelopes_4 rfl (lv_at hl 0 rfl) ?_
  refine lv_iconst (v := 4) hx hb dX6_countSameEnvelopes_5 (by decide) ?_
  refine lv_icmp_ge (tgt := 27) hx hb dX6_countSameEnvelopes_6 (by decide) (fun h => absurd h (by decide)) (fun _ => ?_)
  refine lv_aload_n hx hb dX6_countSameEnvelopes_9 rfl (lv_at hl 2 rfl) ?_
  refine lv_iload_n hx hb dX6_countSameEnvelopes_10 rfl (lv_at hl 3 rfl) ?_
  refine lv_iload_n hx hb dX6_countSameEnvelopes_11 rfl (lv_at hl 0 rfl) ?_
  refine g_i (wr := []) (rV (rest := []) hx hb hml hown hE hP hD 1 rfl rfl (c1967_X6_hasSameEnvelope l g q1 q9 x12 x15 w2 w3 w4 w6 w7 w8 f10 (hf11) (hf25) (hf14) (hf26) h23 h24 H.size) (kV_X6_hasSameEnvelope hE (e999 hE) rfl rfl ⟨(Nat.le_of_ble_eq_true rfl), (Nat.le_of_ble_eq_true rfl)⟩) [0, 1] rfl (by decide) rfl hl.1 rfl (lv_room (Nat.le_of_ble_eq_true rfl)) dX6_countSameEnvelopes_12 ⟨(Nat.le_of_ble_eq_true rfl), (Nat.le_of_ble_eq_true rfl)⟩) hP hD hS hA [0, 1] [] rfl rfl (by decide) (by decide) (fun u3 H locs hP hD hS => ?_)
  have hP : va_P g.1 vwCl [(q9, .inl (g.2 0, 20, .inl f10)), (q1, .inr (8, [w2, w3, w4, .ref q9, w6, w7, w8]))] H := hP
  have hD : va_D A [(q9, .inl (g.2 0, 20, .inl f10)), (q1, .inr (8, [w2, w3, w4, .ref q9, w6, w7, w8]))] := hD
  refine lv_if_eq (tgt := 21) hx hb dX6_countSameEnvelopes_15 (by decide) (fun _ => ?_) (fun h => absurd (by decide) h)
  refine lv_iinc (v := 3) (lv' := [(3, .int 3), (2, .int 1), (0, .ref q1), (1, .int 1)]) hx hb dX6_countSameEnvelopes_21 hl (k := 0) rfl (by decide) (by decide) rfl (fun ls hl => ?_)
  refine lv_goto (tgt := 4) hx hb dX6_countSameEnvelopes_24 (by decide) ?_
  refine lv_iload_n hx hb dX6_countSameEnvelopes_4 rfl (lv_at hl 0 rfl) ?_
  refine lv_iconst (v := 4) hx hb dX6_countSameEnvelopes_5 (by decide) ?_
  refine lv_icmp_ge (tgt := 27) hx hb dX6_countSameEnvelopes_6 (by decide) (fun h => absurd h (by decide)) (fun _ => ?_)
  refine lv_aload_n hx hb dX6_countSameEnvelopes_9 rfl (lv_at hl 2 rfl) ?_
  refine lv_iload_n hx hb dX6_countSameEnvelopes_10 rfl (lv_at hl 3 rfl) ?_
  refine lv_iload_n hx hb dX6_countSameEnvelopes_11 rfl (lv_at hl 0 rfl) ?_
  refine g_i (wr := []) (rV (rest := []) hx hb hml hown hE hP hD 1 rfl rfl (c1968_X6_hasSameEnvelope l g q1 q9 x12 x15 w2 w3 w4 w6 w7 w8 f10 (hf11) (hf29) (hf14) (hf30) h23 h24 H.size) (kV_X6_hasSameEnvelope hE (e999 hE) rfl rfl ⟨(Nat.le_of_ble_eq_true rfl), (Nat.le_of_ble_eq_true rfl)⟩) [0, 1] rfl (by decide) rfl hl.1 rfl (lv_room (Nat.le_of_ble_eq_true rfl)) dX6_countSameEnvelopes_12 ⟨(Nat.le_of_ble_eq_true rfl), (Nat.le_of_ble_eq_true rfl)⟩) hP hD hS hA [0, 1] [] rfl rfl (by decide) (by decide) (fun u4 H locs hP hD hS => ?_)
  have hP : va_P g.1 vwCl [(q9, .inl (g.2 0, 20, .inl f10)), (q1, .inr (8, [w2, w3, w4, .ref q9, w6, w7, w8]))] H := hP
  have hD : va_D A [(q9, .inl (g.2 0, 20, .inl f10)), (q1, .inr (8, [w2, w3, w4, .ref q9, w6, w7, w8]))] := hD
  refine lv_if_eq (tgt := 21) hx hb dX6_countSameEnvelopes_15 (by decide) (fun _ => ?_) (fun h => absurd (by decide) h)
  refine lv_iinc (v := 4) (lv' := [(3, .int 4), (2, .int 1), (0, .ref q1), (1, .int 1)]) hx hb dX6_countSameEnvelopes_21 hl (k := 0) rfl (by decide) (by decide) rfl (fun ls hl => ?_)
  refine lv_goto (tgt := 4) hx hb dX6_countSameEnvelopes_24 (by decide) ?_
  refine lv_iload_n hx hb dX6_countSameEnvelopes_4 rfl (lv_at hl 0 rfl) ?_
  refine lv_iconst (v := 4) hx hb dX6_countSameEnvelopes_5 (by decide) ?_
  refine lv_icmp_ge (tgt := 27) hx hb dX6_countSameEnvelopes_6 (by decide) (fun _ => ?_) (fun h => absurd (by decide) h)
  refine lv_iload_n hx hb dX6_countSameEnvelopes_27 rfl (lv_at hl 1 rfl) ?_
  exact x_zret hx hb hr rfl rfl hlocks hP hD hS hAe hsz (Nat.le_of_ble_eq_true rfl) (Nat.le_of_ble_eq_true rfl) (fun _ => 0) [0, 1] (by decide) rfl dX6_countSameEnvelopes_28

set_option maxHeartbeats 4000000 in
set_option maxRecDepth 100000 in
theorem c1970_X9_setEnvelope (l : Launch) (g : gG) (q1 q25 q29 q32 q34 q42 q43 q44 q45 q53 q54 q55 q56 q59 q60 q63 q64 q71 q72 q77 q78 : Nat) (x2 x3 x4 x5 : Int32) (w15 w16 w17 w18 w19 w20 w21 w22 w23 w24 w39 w40 w41 w75 w76 : Value) (f30 : Nat → Option Nat) (f65 : Nat → Int32) (f66 : Nat → Int32) (f79 : Nat → Int32) (f80 : Nat → Int32) (hf31 : f30 1 = some q32) (hf33 : f30 0 = some q34) (hf81 : f80 0 = 0) (hf82 : f80 1 = 0) (hf83 : f80 2 = 100) (hf84 : f80 3 = 0) (hf85 : f80 10 = 0) (hf86 : f80 11 = 0) (hf87 : f80 12 = 100) (hf88 : f80 13 = 0) (hf89 : f80 15 = 0) (hf90 : f80 16 = 0) (hf91 : f80 17 = 100) (hf92 : f80 18 = 0) (h6 : (0 : Int32) ≤ x2) (h7 : x2 ≤ 5000) (h8 : (0 : Int32) ≤ x3) (h9 : x3 ≤ 5000) (h10 : (0 : Int32) ≤ x4) (h11 : x4 ≤ 100) (h12 : (0 : Int32) ≤ x5) (h13 : x5 ≤ 5000) (h93 : x2 = 0) (h94 : ¬ x3 = 0) (sz : Nat) : Met l yX9_setEnvelope [Cond.code yX9_setEnvelope cX9_setEnvelope 7 (some .int)] ({ frames := 5, cells := 0, slots := 0, locals := 148 } : Room) (va_Pc [.ref q1, .int 1, .int x2, .int x3, .int x4, .int x5] (PX g sz [(q45, .inl (g.2 0, 20, .inl f80)), (q56, .inl (g.2 0, 20, .inl f80)), (q44, .inl (g.2 0, 60, .inl f65)), (q55, .inl (g.2 0, 60, .inl f65)), (q78, .inl (g.2 0, 10, .inl f79)), (q72, .inl (g.2 0, 10, .inl f79)), (q77, .inl (g.2 0, 10, .inl f65)), (q71, .inl (g.2 0, 10, .inl f65)), (q43, .inr (9, [.ref q77, .ref q78, w75, w76])), (q54, .inr (9, [.ref q71, .ref q72, .int 1, .int 0])), (q64, .inl (g.2 0, 40, .inl f66)), (q60, .inl (g.2 0, 40, .inl f66)), (q63, .inl (g.2 0, 384, .inl f65)), (q59, .inl (g.2 0, 384, .inl f65)), (q42, .inr (5, [.ref q63, .ref q64])), (q53, .inr (5, [.ref q59, .ref q60])), (q34, .inr (8, [.ref q53, .ref q54, .ref q55, .ref q56, .int 0, .int 4, .int 0])), (q32, .inr (8, [.ref q42, .ref q43, .ref q44, .ref q45, w39, w40, w41])), (q29, .inl (g.2 3, 10, .inr (.inr (.inr (.inr f30))))), (q25, .inr (10, [.ref q29, .int 0, .int 0])), (q1, .inr (11, [.ref q25, w15, w16, w17, w18, w19, w20, w21, w22, w23, w24]))])) (QI g [(q45, .inl (g.2 0, 20, .inl f80)), (q56, .inl (g.2 0, 20, .inl f80)), (q44, .inl (g.2 0, 60, .inl f65)), (q55, .inl (g.2 0, 60, .inl f65)), (q78, .inl (g.2 0, 10, .inl f79)), (q72, .inl (g.2 0, 10, .inl f79)), (q77, .inl (g.2 0, 10, .inl f65)), (q71, .inl (g.2 0, 10, .inl f65)), (q43, .inr (9, [.ref q77, .ref q78, w75, w76])), (q54, .inr (9, [.ref q71, .ref q72, .int 1, .int 0])), (q64, .inl (g.2 0, 40, .inl f66)), (q60, .inl (g.2 0, 40, .inl f66)), (q63, .inl (g.2 0, 384, .inl f65)), (q59, .inl (g.2 0, 384, .inl f65)), (q42, .inr (5, [.ref q63, .ref q64])), (q53, .inr (5, [.ref q59, .ref q60])), (q34, .inr (8, [.ref q53, .ref q54, .ref q55, .ref q56, .int 0, .int 4, .int 0])), (q32, .inr (8, [.ref q42, .ref q43, .ref q44, .ref q45, w39, w40, w41])), (q29, .inl (g.2 3, 10, .inr (.inr (.inr (.inr f30))))), (q25, .inr (10, [.ref q29, .int 0, .int 0])), (q1, .inr (11, [.ref q25, w15, w16, w17, w18, w19, w20, w21, w22, w23, w24]))] sz 1 (fun _ => [(q29, .inl (g.2 3, 10, .inr (.inr (.inr (.inr f30))))), (q34, .inr (8, [.ref q53, .ref q54, .ref q55, .ref q56, .int 0, .int 4, .int 0])), (q42, .inr (5, [.ref q63, .ref q64])), (q53, .inr (5, [.ref q59, .ref q60])), (q63, .inl (g.2 0, 384, .inl f65)), (q59, .inl (g.2 0, 384, .inl f65)), (q64, .inl (g.2 0, 40, .inl f66)), (q60, .inl (g.2 0, 40, .inl f66)), (q43, .inr (9, [.ref q77, .ref q78, .int 1, .int 0])), (q54, .inr (9, [.ref q71, .ref q72, .int 1, .int 0])), (q77, .inl (g.2 0, 10, .inl f65)), (q71, .inl (g.2 0, 10, .inl f65)), (q78, .inl (g.2 0, 10, .inl f79)), (q72, .inl (g.2 0, 10, .inl f79)), (q44, .inl (g.2 0, 60, .inl f65)), (q55, .inl (g.2 0, 60, .inl f65)), (q56, .inl (g.2 0, 20, .inl f80)), (q25, .inr (10, [.ref q29, .int 1, .int 1])), (q1, .inr (11, [.ref q25, w15, w16, w17, w18, w19, w20, w21, .int 0, .int 0, w24])), (q45, .inl (g.2 0, 20, .inl (upd (upd (upd (upd f80 5 x2) 6 x3) 7 x4) 8 x5))), (q32, .inr (8, [.ref q42, .ref q43, .ref q44, .ref q45, .int 0, .int 4, .int 0]))])) 0 0 (va_A [(q45, .inl (g.2 0, 20, .inl f80)), (q56, .inl (g.2 0, 20, .inl f80)), (q44, .inl (g.2 0, 60, .inl f65)), (q55, .inl (g.2 0, 60, .inl f65)), (q78, .inl (g.2 0, 10, .inl f79)), (q72, .inl (g.2 0, 10, .inl f79)), (q77, .inl (g.2 0, 10, .inl f65)), (q71, .inl (g.2 0, 10, .inl f65)), (q43, .inr (9, [.ref q77, .ref q78, w75, w76])), (q54, .inr (9, [.ref q71, .ref q72, .int 1, .int 0])), (q64, .inl (g.2 0, 40, .inl f66)), (q60, .inl (g.2 0, 40, .inl f66)), (q63, .inl (g.2 0, 384, .inl f65)), (q59, .inl (g.2 0, 384, .inl f65)), (q42, .inr (5, [.ref q63, .ref q64])), (q53, .inr (5, [.ref q59, .ref q60])), (q34, .inr (8, [.ref q53, .ref q54, .ref q55, .ref q56, .int 0, .int 4, .int 0])), (q32, .inr (8, [.ref q42, .ref q43, .ref q44, .ref q45, w39, w40, w41])), (q29, .inl (g.2 3, 10, .inr (.inr (.inr (.inr f30))))), (q25, .inr (10, [.ref q29, .int 0, .int 0])), (q1, .inr (11, [.ref q25, w15, w16, w17, w18, w19, w20, w21, w22, w23, w24]))] sz) := by
  refine ofN (by decide) (Nat.le_of_ble_eq_true rfl) rfl ?_
  intro p e s m args below meth c A ls hAe hsz hx hb hml hr hlocks hin hown hE hP hD hA hS hl
  have hown : s.vm.findClass RX9 = some m.cls := hown
  refine lv_iload_n hx hb dX9_setEnvelope_0 rfl (lv_at hl 1 rfl) ?_
  refine g0_v (rS (rest := []) hx hb hml hown hE hP hD (c1854_X9_requireInstrument l g 1 (by decide) (by decide) s.heap.size) (kS_X9_requireInstrument hE (e991 hE) rfl rfl ⟨(Nat.le_of_ble_eq_true rfl), (Nat.le_of_ble_eq_true rfl)⟩) [] rfl (by decide) rfl hl.1 rfl (lv_room (Nat.le_of_ble_eq_true rfl)) dX9_setEnvelope_1 ⟨(Nat.le_of_ble_eq_true rfl), (Nat.le_of_ble_eq_true rfl)⟩) hP hD hS hA (fun u9 H locs hP hS => ?_)
  refine lv_iload_n hx hb dX9_setEnvelope_4 rfl (lv_at hl 2 rfl) ?_
  refine lv_iconst (v := 0) hx hb dX9_setEnvelope_5 (by decide) ?_
  refine lv_sipush (v := 5000) hx hb dX9_setEnvelope_6 (by decide) ?_
  refine g0_v (rS (rest := []) hx hb hml hown hE hP hD (c1859_X9_requireRange l g x2 h6 h7 H.size) (kS_X9_requireRange hE (e636 hE) rfl rfl ⟨(Nat.le_of_ble_eq_true rfl), (Nat.le_of_ble_eq_true rfl)⟩) [] rfl (by decide) rfl hl.1 rfl (lv_room (Nat.le_of_ble_eq_true rfl)) dX9_setEnvelope_9 ⟨(Nat.le_of_ble_eq_true rfl), (Nat.le_of_ble_eq_true rfl)⟩) hP hD hS hA (fun u9 H locs hP hS => ?_)
  refine lv_iload_n hx hb dX9_setEnvelope_12 rfl (lv_at hl 3 rfl) ?_
  refine lv_iconst (v := 0) hx hb dX9_setEnvelope_13 (by decide) ?_
  refine lv_sipush (v := 5000) hx hb dX9_setEnvelope_14 (by decide) ?_
  refine g0_v (rS (rest := []) hx hb hml hown hE hP hD (c1859_X9_requireRange l g x3 h8 h9 H.size) (kS_X9_requireRange hE (e636 hE) rfl rfl ⟨(Nat.le_of_ble_eq_true rfl), (Nat.le_of_ble_eq_true rfl)⟩) [] rfl (by decide) rfl hl.1 rfl (lv_room (Nat.le_of_ble_eq_true rfl)) dX9_setEnvelope_17 ⟨(Nat.le_of_ble_eq_true rfl), (Nat.le_of_ble_eq_true rfl)⟩) hP hD hS hA (fun u9 H locs hP hS => ?_)
  refine lv_iload hx hb dX9_setEnvelope_20 (lv_at hl 4 rfl) ?_
  refine lv_iconst (v := 0) hx hb dX9_setEnvelope_22 (by decide) ?_
  refine lv_bipush (v := 100) hx hb dX9_setEnvelope_23 (by decide) ?_
  refine g0_v (rS (rest := []) hx hb hml hown hE hP hD (c1866_X9_requireRange l g x4 h10 h11 H.size) (kS_X9_requireRange hE (e636 hE) rfl rfl ⟨(Nat.le_of_ble_eq_true rfl), (Nat.le_of_ble_eq_true rfl)⟩) [] rfl (by decide) rfl hl.1 rfl (lv_room (Nat.le_of_ble_eq_true rfl)) dX9_setEnvelope_25 ⟨(Nat.le_of_ble_eq_true rfl), (Nat.le_of_ble_eq_true rfl)⟩) hP hD hS hA (fun u9 H locs hP hS => ?_)
  refine lv_iload hx hb dX9_setEnvelope_28 (lv_at hl 5 rfl) ?_
  refine lv_iconst (v := 0) hx hb dX9_setEnvelope_30 (by decide) ?_
  refine lv_sipush (v := 5000) hx hb dX9_setEnvelope_31 (by decide) ?_
  refine g0_v (rS (rest := []) hx hb hml hown hE hP hD (c1859_X9_requireRange l g x5 h12 h13 H.size) (kS_X9_requireRange hE (e636 hE) rfl rfl ⟨(Nat.le_of_ble_eq_true rfl), (Nat.le_of_ble_eq_true rfl)⟩) [] rfl (by decide) rfl hl.1 rfl (lv_room (Nat.le_of_ble_eq_true rfl)) dX9_setEnvelope_34 ⟨(Nat.le_of_ble_eq_true rfl), (Nat.le_of_ble_eq_true rfl)⟩) hP hD hS hA (fun u9 H locs hP hS => ?_)
  refine lv_aload_n hx hb dX9_setEnvelope_37 rfl (lv_at hl 0 rfl) ?_
  refine gf_RX9_12 hx hb hown hE hP 20 rfl rfl dX9_setEnvelope_38 ?_
  refine g_r (wr := [(q1, .inr (11, [.ref q25, w15, w16, w17, w18, w19, w20, w21, w22, w23, w24]))]) (rV (rest := []) hx hb hml hown hE hP hD 19 rfl rfl (c127_X8_draft l g q25 q29 q32 q34 q42 q53 q59 q63 q60 q64 q43 q54 q71 q77 q72 q78 q55 q44 q56 q45 (.int 0) w39 w40 w41 w75 w76 f30 f65 f66 f79 f80 (hf31) (hf33) H.size) (kV_X8_draft hE (e659 hE) rfl rfl ⟨(Nat.le_of_ble_eq_true rfl), (Nat.le_of_ble_eq_true rfl)⟩) [0, 1, 2, 3, 4, 5, 6, 7, 8, 9, 10, 11, 12, 13, 14, 15, 16, 17, 18, 19] rfl (by decide) rfl hl.1 rfl (lv_room (Nat.le_of_ble_eq_true rfl)) dX9_setEnvelope_41 ⟨(Nat.le_of_ble_eq_true rfl), (Nat.le_of_ble_eq_true rfl)⟩) hP hD hS hA [0, 1, 2, 3, 4, 5, 6, 7, 8, 9, 10, 11, 12, 13, 14, 15, 16, 17, 18, 19] [20] rfl rfl (by decide) (by decide) (fun u6 H locs hP hD hS => ?_)
  have hP : va_P g.1 vwCl [(q1, .inr (11, [.ref q25, w15, w16, w17, w18, w19, w20, w21, w22, w23, w24])), (q29, .inl (g.2 3, 10, .inr (.inr (.inr (.inr f30))))), (q25, .inr (10, [.ref q29, .int 0, .int 0])), (q34, .inr (8, [.ref q53, .ref q54, .ref q55, .ref q56, .int 0, .int 4, .int 0])), (q32, .inr (8, [.ref q42, .ref q43, .ref q44, .ref q45, .int 0, .int 4, .int 0])), (q42, .inr (5, [.ref q63, .ref q64])), (q53, .inr (5, [.ref q59, .ref q60])), (q63, .inl (g.2 0, 384, .inl f65)), (q59, .inl (g.2 0, 384, .inl f65)), (q64, .inl (g.2 0, 40, .inl f66)), (q60, .inl (g.2 0, 40, .inl f66)), (q43, .inr (9, [.ref q77, .ref q78, .int 1, .int 0])), (q54, .inr (9, [.ref q71, .ref q72, .int 1, .int 0])), (q77, .inl (g.2 0, 10, .inl f65)), (q71, .inl (g.2 0, 10, .inl f65)), (q78, .inl (g.2 0, 10, .inl f79)), (q72, .inl (g.2 0, 10, .inl f79)), (q44, .inl (g.2 0, 60, .inl f65)), (q55, .inl (g.2 0, 60, .inl f65)), (q45, .inl (g.2 0, 20, .inl f80)), (q56, .inl (g.2 0, 20, .inl f80))] H := hP
  have hD : va_D A [(q1, .inr (11, [.ref q25, w15, w16, w17, w18, w19, w20, w21, w22, w23, w24])), (q29, .inl (g.2 3, 10, .inr (.inr (.inr (.inr f30))))), (q25, .inr (10, [.ref q29, .int 0, .int 0])), (q34, .inr (8, [.ref q53, .ref q54, .ref q55, .ref q56, .int 0, .int 4, .int 0])), (q32, .inr (8, [.ref q42, .ref q43, .ref q44, .ref q45, .int 0, .int 4, .int 0])), (q42, .inr (5, [.ref q63, .ref q64])), (q53, .inr (5, [.ref q59, .ref q60])), (q63, .inl (g.2 0, 384, .inl f65)), (q59, .inl (g.2 0, 384, .inl f65)), (q64, .inl (g.2 0, 40, .inl f66)), (q60, .inl (g.2 0, 40, .inl f66)), (q43, .inr (9, [.ref q77, .ref q78, .int 1, .int 0])), (q54, .inr (9, [.ref q71, .ref q72, .int 1, .int 0])), (q77, .inl (g.2 0, 10, .inl f65)), (q71, .inl (g.2 0, 10, .inl f65)), (q78, .inl (g.2 0, 10, .inl f79)), (q72, .inl (g.2 0, 10, .inl f79)), (q44, .inl (g.2 0, 60, .inl f65)), (q55, .inl (g.2 0, 60, .inl f65)), (q45, .inl (g.2 0, 20, .inl f80)), (q56, .inl (g.2 0, 20, .inl f80))] := hD
  refine lv_astore (lv' := [(6, .ref q32), (0, .ref q1), (1, .int 1), (2, .int x2), (3, .int x3), (4, .int x4), (5, .int x5)]) hx hb dX9_setEnvelope_44 hl (by decide) rfl (fun ls hl => ?_)
  refine lv_aload hx hb dX9_setEnvelope_46 (lv_at hl 0 rfl) ?_
  refine lv_iload_n hx hb dX9_setEnvelope_48 rfl (lv_at hl 2 rfl) ?_
  refine lv_iload_n hx hb dX9_setEnvelope_49 rfl (lv_at hl 3 rfl) ?_
  refine lv_iload_n hx hb dX9_setEnvelope_50 rfl (lv_at hl 4 rfl) ?_
  refine lv_iload hx hb dX9_setEnvelope_51 (lv_at hl 5 rfl) ?_
  refine lv_iload hx hb dX9_setEnvelope_53 (lv_at hl 6 rfl) ?_
  refine g_v (wr := [(q1, .inr (11, [.ref q25, w15, w16, w17, w18, w19, w20, w21, w22, w23, w24])), (q29, .inl (g.2 3, 10, .inr (.inr (.inr (.inr f30))))), (q25, .inr (10, [.ref q29, .int 0, .int 0])), (q34, .inr (8, [.ref q53, .ref q54, .ref q55, .ref q56, .int 0, .int 4, .int 0])), (q42, .inr (5, [.ref q63, .ref q64])), (q53, .inr (5, [.ref q59, .ref q60])), (q63, .inl (g.2 0, 384, .inl f65)), (q59, .inl (g.2 0, 384, .inl f65)), (q64, .inl (g.2 0, 40, .inl f66)), (q60, .inl (g.2 0, 40, .inl f66)), (q43, .inr (9, [.ref q77, .ref q78, .int 1, .int 0])), (q54, .inr (9, [.ref q71, .ref q72, .int 1, .int 0])), (q77, .inl (g.2 0, 10, .inl f65)), (q71, .inl (g.2 0, 10, .inl f65)), (q78, .inl (g.2 0, 10, .inl f79)), (q72, .inl (g.2 0, 10, .inl f79)), (q44, .inl (g.2 0, 60, .inl f65)), (q55, .inl (g.2 0, 60, .inl f65)), (q56, .inl (g.2 0, 20, .inl f80))]) (rV (rest := []) hx hb hml hown hE hP hD 4 rfl rfl (c1939_X6_putEnvelope l g q32 q45 x2 x3 x4 x5 (.ref q42) (.ref q43) (.ref q44) (.int 0) (.int 4) (.int 0) f80 H.size) (kV_X6_putEnvelope hE (e994 hE) rfl rfl ⟨(Nat.le_of_ble_eq_true rfl), (Nat.le_of_ble_eq_true rfl)⟩) [19, 4] rfl (by decide) rfl hl.1 rfl (lv_room (Nat.le_of_ble_eq_true rfl)) dX9_setEnvelope_55 ⟨(Nat.le_of_ble_eq_true rfl), (Nat.le_of_ble_eq_true rfl)⟩) hP hD hS hA [19, 4] [0, 1, 2, 3, 5, 6, 7, 8, 9, 10, 11, 12, 13, 14, 15, 16, 17, 18, 20] rfl rfl (by decide) (by decide) (fun u7 H locs hP hD hS => ?_)
  have hP : va_P g.1 vwCl [(q1, .inr (11, [.ref q25, w15, w16, w17, w18, w19, w20, w21, w22, w23, w24])), (q29, .inl (g.2 3, 10, .inr (.inr (.inr (.inr f30))))), (q25, .inr (10, [.ref q29, .int 0, .int 0])), (q34, .inr (8, [.ref q53, .ref q54, .ref q55, .ref q56, .int 0, .int 4, .int 0])), (q42, .inr (5, [.ref q63, .ref q64])), (q53, .inr (5, [.ref q59, .ref q60])), (q63, .inl (g.2 0, 384, .inl f65)), (q59, .inl (g.2 0, 384, .inl f65)), (q64, .inl (g.2 0, 40, .inl f66)), (q60, .inl (g.2 0, 40, .inl f66)), (q43, .inr (9, [.ref q77, .ref q78, .int 1, .int 0])), (q54, .inr (9, [.ref q71, .ref q72, .int 1, .int 0])), (q77, .inl (g.2 0, 10, .inl f65)), (q71, .inl (g.2 0, 10, .inl f65)), (q78, .inl (g.2 0, 10, .inl f79)), (q72, .inl (g.2 0, 10, .inl f79)), (q44, .inl (g.2 0, 60, .inl f65)), (q55, .inl (g.2 0, 60, .inl f65)), (q56, .inl (g.2 0, 20, .inl f80)), (q32, .inr (8, [.ref q42, .ref q43, .ref q44, .ref q45, .int 0, .int 4, .int 0])), (q45, .inl (g.2 0, 20, .inl (upd (upd (upd (upd f80 5 x2) 6 x3) 7 x4) 8 x5)))] H := hP
  have hD : va_D A [(q1, .inr (11, [.ref q25, w15, w16, w17, w18, w19, w20, w21, w22, w23, w24])), (q29, .inl (g.2 3, 10, .inr (.inr (.inr (.inr f30))))), (q25, .inr (10, [.ref q29, .int 0, .int 0])), (q34, .inr (8, [.ref q53, .ref q54, .ref q55, .ref q56, .int 0, .int 4, .int 0])), (q42, .inr (5, [.ref q63, .ref q64])), (q53, .inr (5, [.ref q59, .ref q60])), (q63, .inl (g.2 0, 384, .inl f65)), (q59, .inl (g.2 0, 384, .inl f65)), (q64, .inl (g.2 0, 40, .inl f66)), (q60, .inl (g.2 0, 40, .inl f66)), (q43, .inr (9, [.ref q77, .ref q78, .int 1, .int 0])), (q54, .inr (9, [.ref q71, .ref q72, .int 1, .int 0])), (q77, .inl (g.2 0, 10, .inl f65)), (q71, .inl (g.2 0, 10, .inl f65)), (q78, .inl (g.2 0, 10, .inl f79)), (q72, .inl (g.2 0, 10, .inl f79)), (q44, .inl (g.2 0, 60, .inl f65)), (q55, .inl (g.2 0, 60, .inl f65)), (q56, .inl (g.2 0, 20, .inl f80)), (q32, .inr (8, [.ref q42, .ref q43, .ref q44, .ref q45, .int 0, .int 4, .int 0])), (q45, .inl (g.2 0, 20, .inl (upd (upd (upd (upd f80 5 x2) 6 x3) 7 x4) 8 x5)))] := hD
  refine lv_aload_n hx hb dX9_setEnvelope_58 rfl (lv_at hl 1 rfl) ?_
  refine g_v (wr := [(q29, .inl (g.2 3, 10, .inr (.inr (.inr (.inr f30))))), (q34, .inr (8, [.ref q53, .ref q54, .ref q55, .ref q56, .int 0, .int 4, .int 0])), (q42, .inr (5, [.ref q63, .ref q64])), (q53, .inr (5, [.ref q59, .ref q60])), (q63, .inl (g.2 0, 384, .inl f65)), (q59, .inl (g.2 0, 384, .inl f65)), (q64, .inl (g.2 0, 40, .inl f66)), (q60, .inl (g.2 0, 40, .inl f66)), (q43, .inr (9, [.ref q77, .ref q78, .int 1, .int 0])), (q54, .inr (9, [.ref q71, .ref q72, .int 1, .int 0])), (q77, .inl (g.2 0, 10, .inl f65)), (q71, .inl (g.2 0, 10, .inl f65)), (q78, .inl (g.2 0, 10, .inl f79)), (q72, .inl (g.2 0, 10, .inl f79)), (q44, .inl (g.2 0, 60, .inl f65)), (q55, .inl (g.2 0, 60, .inl f65)), (q56, .inl (g.2 0, 20, .inl f80)), (q32, .inr (8, [.ref q42, .ref q43, .ref q44, .ref q45, .int 0, .int 4, .int 0])), (q45, .inl (g.2 0, 20, .inl (upd (upd (upd (upd f80 5 x2) 6 x3) 7 x4) 8 x5)))]) (rV (rest := []) hx hb hml hown hE hP hD 0 rfl rfl (c191_X9_accept l g q1 q25 w15 w16 w17 w18 w19 w20 w21 w22 w23 w24 (.ref q29) H.size) (kV_X9_accept hE (e718 hE) rfl rfl ⟨(Nat.le_of_ble_eq_true rfl), (Nat.le_of_ble_eq_true rfl)⟩) [2, 0] rfl (by decide) rfl hl.1 rfl (lv_room (Nat.le_of_ble_eq_true rfl)) dX9_setEnvelope_59 ⟨(Nat.le_of_ble_eq_true rfl), (Nat.le_of_ble_eq_true rfl)⟩) hP hD hS hA [2, 0] [1, 3, 4, 5, 6, 7, 8, 9, 10, 11, 12, 13, 14, 15, 16, 17, 18, 19, 20] rfl rfl (by decide) (by decide) (fun u8 H locs hP hD hS => ?_)
  have hP : va_P g.1 vwCl [(q29, .inl (g.2 3, 10, .inr (.inr (.inr (.inr f30))))), (q34, .inr (8, [.ref q53, .ref q54, .ref q55, .ref q56, .int 0, .int 4, .int 0])), (q42, .inr (5, [.ref q63, .ref q64])), (q53, .inr (5, [.ref q59, .ref q60])), (q63, .inl (g.2 0, 384, .inl f65)), (q59, .inl (g.2 0, 384, .inl f65)), (q64, .inl (g.2 0, 40, .inl f66)), (q60, .inl (g.2 0, 40, .inl f66)), (q43, .inr (9, [.ref q77, .ref q78, .int 1, .int 0])), (q54, .inr (9, [.ref q71, .ref q72, .int 1, .int 0])), (q77, .inl (g.2 0, 10, .inl f65)), (q71, .inl (g.2 0, 10, .inl f65)), (q78, .inl (g.2 0, 10, .inl f79)), (q72, .inl (g.2 0, 10, .inl f79)), (q44, .inl (g.2 0, 60, .inl f65)), (q55, .inl (g.2 0, 60, .inl f65)), (q56, .inl (g.2 0, 20, .inl f80)), (q32, .inr (8, [.ref q42, .ref q43, .ref q44, .ref q45, .int 0, .int 4, .int 0])), (q45, .inl (g.2 0, 20, .inl (upd (upd (upd (upd f80 5 x2) 6 x3) 7 x4) 8 x5))), (q25, .inr (10, [.ref q29, .int 1, .int 1])), (q1, .inr (11, [.ref q25, w15, w16, w17, w18, w19, w20, w21, .int 0, .int 0, w24]))] H := hP
  have hD : va_D A [(q29, .inl (g.2 3, 10, .inr (.inr (.inr (.inr f30))))), (q34, .inr (8, [.ref q53, .ref q54, .ref q55, .ref q56, .int 0, .int 4, .int 0])), (q42, .inr (5, [.ref q63, .ref q64])), (q53, .inr (5, [.ref q59, .ref q60])), (q63, .inl (g.2 0, 384, .inl f65)), (q59, .inl (g.2 0, 384, .inl f65)), (q64, .inl (g.2 0, 40, .inl f66)), (q60, .inl (g.2 0, 40, .inl f66)), (q43, .inr (9, [.ref q77, .ref q78, .int 1, .int 0])), (q54, .inr (9, [.ref q71, .ref q72, .int 1, .int 0])), (q77, .inl (g.2 0, 10, .inl f65)), (q71, .inl (g.2 0, 10, .inl f65)), (q78, .inl (g.2 0, 10, .inl f79)), (q72, .inl (g.2 0, 10, .inl f79)), (q44, .inl (g.2 0, 60, .inl f65)), (q55, .inl (g.2 0, 60, .inl f65)), (q56, .inl (g.2 0, 20, .inl f80)), (q32, .inr (8, [.ref q42, .ref q43, .ref q44, .ref q45, .int 0, .int 4, .int 0])), (q45, .inl (g.2 0, 20, .inl (upd (upd (upd (upd f80 5 x2) 6 x3) 7 x4) 8 x5))), (q25, .inr (10, [.ref q29, .int 1, .int 1])), (q1, .inr (11, [.ref q25, w15, w16, w17, w18, w19, w20, w21, .int 0, .int 0, w24]))] := hD
  refine lv_aload hx hb dX9_setEnvelope_62 (lv_at hl 0 rfl) ?_
  refine lv_iload_n hx hb dX9_setEnvelope_64 rfl (lv_at hl 2 rfl) ?_
  refine g_i (wr := [(q29, .inl (g.2 3, 10, .inr (.inr (.inr (.inr f30))))), (q34, .inr (8, [.ref q53, .ref q54, .ref q55, .ref q56, .int 0, .int 4, .int 0])), (q42, .inr (5, [.ref q63, .ref q64])), (q53, .inr (5, [.ref q59, .ref q60])), (q63, .inl (g.2 0, 384, .inl f65)), (q59, .inl (g.2 0, 384, .inl f65)), (q64, .inl (g.2 0, 40, .inl f66)), (q60, .inl (g.2 0, 40, .inl f66)), (q43, .inr (9, [.ref q77, .ref q78, .int 1, .int 0])), (q54, .inr (9, [.ref q71, .ref q72, .int 1, .int 0])), (q77, .inl (g.2 0, 10, .inl f65)), (q71, .inl (g.2 0, 10, .inl f65)), (q78, .inl (g.2 0, 10, .inl f79)), (q72, .inl (g.2 0, 10, .inl f79)), (q44, .inl (g.2 0, 60, .inl f65)), (q55, .inl (g.2 0, 60, .inl f65)), (q56, .inl (g.2 0, 20, .inl f80)), (q25, .inr (10, [.ref q29, .int 1, .int 1])), (q1, .inr (11, [.ref q25, w15, w16, w17, w18, w19, w20, w21, .int 0, .int 0, w24]))]) (rV (rest := []) hx hb hml hown hE hP hD 17 rfl rfl (c1969_X6_countSameEnvelopes l g q32 q45 x2 x3 x4 x5 (.ref q42) (.ref q43) (.ref q44) (.int 0) (.int 4) (.int 0) (upd (upd (upd (upd f80 5 x2) 6 x3) 7 x4) 8 x5) (((pk_un (by decide)).trans ((pk_un (by decide)).trans ((pk_un (by decide)).trans pk_us)))) (((pk_un (by decide)).trans ((pk_un (by decide)).trans ((pk_un (by decide)).trans ((pk_un (by decide)).trans hf81))))) (((pk_un (by decide)).trans ((pk_un (by decide)).trans pk_us))) (((pk_un (by decide)).trans ((pk_un (by decide)).trans ((pk_un (by decide)).trans ((pk_un (by decide)).trans hf82))))) (((pk_un (by decide)).trans pk_us)) (((pk_un (by decide)).trans ((pk_un (by decide)).trans ((pk_un (by decide)).trans ((pk_un (by decide)).trans hf83))))) (pk_us) (((pk_un (by decide)).trans ((pk_un (by decide)).trans ((pk_un (by decide)).trans ((pk_un (by decide)).trans hf84))))) (((pk_un (by decide)).trans ((pk_un (by decide)).trans ((pk_un (by decide)).trans ((pk_un (by decide)).trans hf85))))) (((pk_un (by decide)).trans ((pk_un (by decide)).trans ((pk_un (by decide)).trans ((pk_un (by decide)).trans hf86))))) (((pk_un (by decide)).trans ((pk_un (by decide)).trans ((pk_un (by decide)).trans ((pk_un (by decide)).trans hf87))))) (((pk_un (by decide)).trans ((pk_un (by decide)).trans ((pk_un (by decide)).trans ((pk_un (by decide)).trans hf88))))) (((pk_un (by decide)).trans ((pk_un (by decide)).trans ((pk_un (by decide)).trans ((pk_un (by decide)).trans hf89))))) (((pk_un (by decide)).trans ((pk_un (by decide)).trans ((pk_un (by decide)).trans ((pk_un (by decide)).trans hf90))))) (((pk_un (by decide)).trans ((pk_un (by decide)).trans ((pk_un (by decide)).trans ((pk_un (by decide)).trans hf91))))) (((pk_un (by decide)).trans ((pk_un (by decide)).trans ((pk_un (by decide)).trans ((pk_un (by decide)).trans hf92))))) h93 h94 H.size) (kV_X6_countSameEnvelopes hE (e995 hE) rfl rfl ⟨(Nat.le_of_ble_eq_true rfl), (Nat.le_of_ble_eq_true rfl)⟩) [18, 17] rfl (by decide) rfl hl.1 rfl (lv_room (Nat.le_of_ble_eq_true rfl)) dX9_setEnvelope_65 ⟨(Nat.le_of_ble_eq_true rfl), (Nat.le_of_ble_eq_true rfl)⟩) hP hD hS hA [18, 17] [0, 1, 2, 3, 4, 5, 6, 7, 8, 9, 10, 11, 12, 13, 14, 15, 16, 19, 20] rfl rfl (by decide) (by decide) (fun u9 H locs hP hD hS => ?_)
  have hP : va_P g.1 vwCl [(q29, .inl (g.2 3, 10, .inr (.inr (.inr (.inr f30))))), (q34, .inr (8, [.ref q53, .ref q54, .ref q55, .ref q56, .int 0, .int 4, .int 0])), (q42, .inr (5, [.ref q63, .ref q64])), (q53, .inr (5, [.ref q59, .ref q60])), (q63, .inl (g.2 0, 384, .inl f65)), (q59, .inl (g.2 0, 384, .inl f65)), (q64, .inl (g.2 0, 40, .inl f66)), (q60, .inl (g.2 0, 40, .inl f66)), (q43, .inr (9, [.ref q77, .ref q78, .int 1, .int 0])), (q54, .inr (9, [.ref q71, .ref q72, .int 1, .int 0])), (q77, .inl (g.2 0, 10, .inl f65)), (q71, .inl (g.2 0, 10, .inl f65)), (q78, .inl (g.2 0, 10, .inl f79)), (q72, .inl (g.2 0, 10, .inl f79)), (q44, .inl (g.2 0, 60, .inl f65)), (q55, .inl (g.2 0, 60, .inl f65)), (q56, .inl (g.2 0, 20, .inl f80)), (q25, .inr (10, [.ref q29, .int 1, .int 1])), (q1, .inr (11, [.ref q25, w15, w16, w17, w18, w19, w20, w21, .int 0, .int 0, w24])), (q45, .inl (g.2 0, 20, .inl (upd (upd (upd (upd f80 5 x2) 6 x3) 7 x4) 8 x5))), (q32, .inr (8, [.ref q42, .ref q43, .ref q44, .ref q45, .int 0, .int 4, .int 0]))] H := hP
  have hD : va_D A [(q29, .inl (g.2 3, 10, .inr (.inr (.inr (.inr f30))))), (q34, .inr (8, [.ref q53, .ref q54, .ref q55, .ref q56, .int 0, .int 4, .int 0])), (q42, .inr (5, [.ref q63, .ref q64])), (q53, .inr (5, [.ref q59, .ref q60])), (q63, .inl (g.2 0, 384, .inl f65)), (q59, .inl (g.2 0, 384, .inl f65)), (q64, .inl (g.2 0, 40, .inl f66)), (q60, .inl (g.2 0, 40, .inl f66)), (q43, .inr (9, [.ref q77, .ref q78, .int 1, .int 0])), (q54, .inr (9, [.ref q71, .ref q72, .int 1, .int 0])), (q77, .inl (g.2 0, 10, .inl f65)), (q71, .inl (g.2 0, 10, .inl f65)), (q78, .inl (g.2 0, 10, .inl f79)), (q72, .inl (g.2 0, 10, .inl f79)), (q44, .inl (g.2 0, 60, .inl f65)), (q55, .inl (g.2 0, 60, .inl f65)), (q56, .inl (g.2 0, 20, .inl f80)), (q25, .inr (10, [.ref q29, .int 1, .int 1])), (q1, .inr (11, [.ref q25, w15, w16, w17, w18, w19, w20, w21, .int 0, .int 0, w24])), (q45, .inl (g.2 0, 20, .inl (upd (upd (upd (upd f80 5 x2) 6 x3) 7 x4) 8 x5))), (q32, .inr (8, [.ref q42, .ref q43, .ref q44, .ref q45, .int 0, .int 4, .int 0]))] := hD
  exact x_zret hx hb hr rfl rfl hlocks hP hD hS hAe hsz (Nat.le_of_ble_eq_true rfl) (Nat.le_of_ble_eq_true rfl) (fun _ => 0) [0, 1, 2, 3, 4, 5, 6, 7, 8, 9, 10, 11, 12, 13, 14, 15, 16, 17, 18, 19, 20] (by decide) rfl dX9_setEnvelope_68

set_option maxHeartbeats 4000000 in
set_option maxRecDepth 100000 in
theorem c1971_L_setEnvelope (l : Launch) (g : gG) (hlx : l.stackTraces = false) (q1 q6 q25 q29 q32 q34 q42 q43 q44 q45 q53 q54 q55 q56 q59 q60 q63 q64 q71 q72 q77 q78 : Nat) (x2 x3 x4 x5 : Int32) (w15 w16 w17 w18 w19 w20 w21 w22 w23 w24 w39 w40 w41 w75 w76 : Value) (f30 : Nat → Option Nat) (f65 : Nat → Int32) (f66 : Nat → Int32) (f79 : Nat → Int32) (f80 : Nat → Int32) (f96 : Nat → Int64) (hf31 : f30 1 = some q32) (hf33 : f30 0 = some q34) (hf81 : f80 0 = 0) (hf82 : f80 1 = 0) (hf83 : f80 2 = 100) (hf84 : f80 3 = 0) (hf85 : f80 10 = 0) (hf86 : f80 11 = 0) (hf87 : f80 12 = 100) (hf88 : f80 13 = 0) (hf89 : f80 15 = 0) (hf90 : f80 16 = 0) (hf91 : f80 17 = 100) (hf92 : f80 18 = 0) (h7 : (0 : Int32) ≤ x2) (h8 : x2 ≤ 5000) (h9 : (0 : Int32) ≤ x3) (h10 : x3 ≤ 5000) (h11 : (0 : Int32) ≤ x4) (h12 : x4 ≤ 100) (h13 : (0 : Int32) ≤ x5) (h93 : x5 ≤ 5000) (h94 : x2 = 0) (h95 : ¬ x3 = 0) (sz : Nat) : Met l yL_setEnvelope [Cond.codeWith yL_setEnvelope cL_setEnvelope 8 (some .int) [(0, 16, 19, 13), (0, 16, 23, 15)]] ({ frames := 6, cells := 0, slots := 0, locals := 174 } : Room) (va_Pc [.ref q1, .int 1, .int x2, .int x3, .int x4, .int x5, .ref q6] (PZ g sz [(q6, .inl (g.2 1, 1, .inr (.inl f96))), (q45, .inl (g.2 0, 20, .inl f80)), (q56, .inl (g.2 0, 20, .inl f80)), (q44, .inl (g.2 0, 60, .inl f65)), (q55, .inl (g.2 0, 60, .inl f65)), (q78, .inl (g.2 0, 10, .inl f79)), (q72, .inl (g.2 0, 10, .inl f79)), (q77, .inl (g.2 0, 10, .inl f65)), (q71, .inl (g.2 0, 10, .inl f65)), (q43, .inr (9, [.ref q77, .ref q78, w75, w76])), (q54, .inr (9, [.ref q71, .ref q72, .int 1, .int 0])), (q64, .inl (g.2 0, 40, .inl f66)), (q60, .inl (g.2 0, 40, .inl f66)), (q63, .inl (g.2 0, 384, .inl f65)), (q59, .inl (g.2 0, 384, .inl f65)), (q42, .inr (5, [.ref q63, .ref q64])), (q53, .inr (5, [.ref q59, .ref q60])), (q34, .inr (8, [.ref q53, .ref q54, .ref q55, .ref q56, .int 0, .int 4, .int 0])), (q32, .inr (8, [.ref q42, .ref q43, .ref q44, .ref q45, w39, w40, w41])), (q29, .inl (g.2 3, 10, .inr (.inr (.inr (.inr f30))))), (q25, .inr (10, [.ref q29, .int 0, .int 0])), (q1, .inr (11, [.ref q25, w15, w16, w17, w18, w19, w20, w21, w22, w23, w24]))])) (QI g [(q6, .inl (g.2 1, 1, .inr (.inl f96))), (q45, .inl (g.2 0, 20, .inl f80)), (q56, .inl (g.2 0, 20, .inl f80)), (q44, .inl (g.2 0, 60, .inl f65)), (q55, .inl (g.2 0, 60, .inl f65)), (q78, .inl (g.2 0, 10, .inl f79)), (q72, .inl (g.2 0, 10, .inl f79)), (q77, .inl (g.2 0, 10, .inl f65)), (q71, .inl (g.2 0, 10, .inl f65)), (q43, .inr (9, [.ref q77, .ref q78, w75, w76])), (q54, .inr (9, [.ref q71, .ref q72, .int 1, .int 0])), (q64, .inl (g.2 0, 40, .inl f66)), (q60, .inl (g.2 0, 40, .inl f66)), (q63, .inl (g.2 0, 384, .inl f65)), (q59, .inl (g.2 0, 384, .inl f65)), (q42, .inr (5, [.ref q63, .ref q64])), (q53, .inr (5, [.ref q59, .ref q60])), (q34, .inr (8, [.ref q53, .ref q54, .ref q55, .ref q56, .int 0, .int 4, .int 0])), (q32, .inr (8, [.ref q42, .ref q43, .ref q44, .ref q45, w39, w40, w41])), (q29, .inl (g.2 3, 10, .inr (.inr (.inr (.inr f30))))), (q25, .inr (10, [.ref q29, .int 0, .int 0])), (q1, .inr (11, [.ref q25, w15, w16, w17, w18, w19, w20, w21, w22, w23, w24]))] sz 0 (fun _ => [(q6, .inl (g.2 1, 1, .inr (.inl (vp_updL f96 0 1))))])) 0 0 (va_A [(q6, .inl (g.2 1, 1, .inr (.inl f96))), (q45, .inl (g.2 0, 20, .inl f80)), (q56, .inl (g.2 0, 20, .inl f80)), (q44, .inl (g.2 0, 60, .inl f65)), (q55, .inl (g.2 0, 60, .inl f65)), (q78, .inl (g.2 0, 10, .inl f79)), (q72, .inl (g.2 0, 10, .inl f79)), (q77, .inl (g.2 0, 10, .inl f65)), (q71, .inl (g.2 0, 10, .inl f65)), (q43, .inr (9, [.ref q77, .ref q78, w75, w76])), (q54, .inr (9, [.ref q71, .ref q72, .int 1, .int 0])), (q64, .inl (g.2 0, 40, .inl f66)), (q60, .inl (g.2 0, 40, .inl f66)), (q63, .inl (g.2 0, 384, .inl f65)), (q59, .inl (g.2 0, 384, .inl f65)), (q42, .inr (5, [.ref q63, .ref q64])), (q53, .inr (5, [.ref q59, .ref q60])), (q34, .inr (8, [.ref q53, .ref q54, .ref q55, .ref q56, .int 0, .int 4, .int 0])), (q32, .inr (8, [.ref q42, .ref q43, .ref q44, .ref q45, w39, w40, w41])), (q29, .inl (g.2 3, 10, .inr (.inr (.inr (.inr f30))))), (q25, .inr (10, [.ref q29, .int 0, .int 0])), (q1, .inr (11, [.ref q25, w15, w16, w17, w18, w19, w20, w21, w22, w23, w24]))] sz) := by
  refine ofH (by decide) (Nat.le_of_ble_eq_true rfl) rfl ?_
  intro p e s m args below meth c A ls hAe hsz hx hb hml hr hlocks hin hown hE hP hD hA hS hl htb hz
  have hown : s.vm.findClass RL = some m.cls := hown
  refine lv_aload hx hb dL_setEnvelope_0 (lv_at hl 6 rfl) ?_
  refine lv_iconst (v := 0) hx hb dL_setEnvelope_2 (by decide) ?_
  refine lv_aload_n hx hb dL_setEnvelope_3 rfl (lv_at hl 0 rfl) ?_
  refine lv_iload_n hx hb dL_setEnvelope_4 rfl (lv_at hl 1 rfl) ?_
  refine lv_iload_n hx hb dL_setEnvelope_5 rfl (lv_at hl 2 rfl) ?_
  refine lv_iload_n hx hb dL_setEnvelope_6 rfl (lv_at hl 3 rfl) ?_
  refine lv_iload hx hb dL_setEnvelope_7 (lv_at hl 4 rfl) ?_
  refine lv_iload hx hb dL_setEnvelope_9 (lv_at hl 5 rfl) ?_
  refine g_i (wr := [(q6, .inl (g.2 1, 1, .inr (.inl f96)))]) (rV (rest := [.int 0, .ref q6]) hx hb hml hown hE hP hD 21 rfl rfl (c1970_X9_setEnvelope l g q1 q25 q29 q32 q34 q42 q43 q44 q45 q53 q54 q55 q56 q59 q60 q63 q64 q71 q72 q77 q78 x2 x3 x4 x5 w15 w16 w17 w18 w19 w20 w21 w22 w23 w24 w39 w40 w41 w75 w76 f30 f65 f66 f79 f80 (hf31) (hf33) (hf81) (hf82) (hf83) (hf84) (hf85) (hf86) (hf87) (hf88) (hf89) (hf90) (hf91) (hf92) h7 h8 h9 h10 h11 h12 h13 h93 h94 h95 s.heap.size) (kV_X9_setEnvelope hE (e987 hE) rfl rfl ⟨(Nat.le_of_ble_eq_true rfl), (Nat.le_of_ble_eq_true rfl)⟩) [1, 2, 3, 4, 5, 6, 7, 8, 9, 10, 11, 12, 13, 14, 15, 16, 17, 18, 19, 20, 21] rfl (by decide) rfl hl.1 rfl (lv_room (Nat.le_of_ble_eq_true rfl)) dL_setEnvelope_11 ⟨(Nat.le_of_ble_eq_true rfl), (Nat.le_of_ble_eq_true rfl)⟩) hP hD hS hA [1, 2, 3, 4, 5, 6, 7, 8, 9, 10, 11, 12, 13, 14, 15, 16, 17, 18, 19, 20, 21] [0] rfl rfl (by decide) (by decide) (fun u1 H locs hP hD hS => ?_)
  have hP : va_P g.1 vwCl [(q6, .inl (g.2 1, 1, .inr (.inl f96))), (q29, .inl (g.2 3, 10, .inr (.inr (.inr (.inr f30))))), (q34, .inr (8, [.ref q53, .ref q54, .ref q55, .ref q56, .int 0, .int 4, .int 0])), (q42, .inr (5, [.ref q63, .ref q64])), (q53, .inr (5, [.ref q59, .ref q60])), (q63, .inl (g.2 0, 384, .inl f65)), (q59, .inl (g.2 0, 384, .inl f65)), (q64, .inl (g.2 0, 40, .inl f66)), (q60, .inl (g.2 0, 40, .inl f66)), (q43, .inr (9, [.ref q77, .ref q78, .int 1, .int 0])), (q54, .inr (9, [.ref q71, .ref q72, .int 1, .int 0])), (q77, .inl (g.2 0, 10, .inl f65)), (q71, .inl (g.2 0, 10, .inl f65)), (q78, .inl (g.2 0, 10, .inl f79)), (q72, .inl (g.2 0, 10, .inl f79)), (q44, .inl (g.2 0, 60, .inl f65)), (q55, .inl (g.2 0, 60, .inl f65)), (q56, .inl (g.2 0, 20, .inl f80)), (q25, .inr (10, [.ref q29, .int 1, .int 1])), (q1, .inr (11, [.ref q25, w15, w16, w17, w18, w19, w20, w21, .int 0, .int 0, w24])), (q45, .inl (g.2 0, 20, .inl (upd (upd (upd (upd f80 5 x2) 6 x3) 7 x4) 8 x5))), (q32, .inr (8, [.ref q42, .ref q43, .ref q44, .ref q45, .int 0, .int 4, .int 0]))] H := hP
  have hD : va_D A [(q6, .inl (g.2 1, 1, .inr (.inl f96))), (q29, .inl (g.2 3, 10, .inr (.inr (.inr (.inr f30))))), (q34, .inr (8, [.ref q53, .ref q54, .ref q55, .ref q56, .int 0, .int 4, .int 0])), (q42, .inr (5, [.ref q63, .ref q64])), (q53, .inr (5, [.ref q59, .ref q60])), (q63, .inl (g.2 0, 384, .inl f65)), (q59, .inl (g.2 0, 384, .inl f65)), (q64, .inl (g.2 0, 40, .inl f66)), (q60, .inl (g.2 0, 40, .inl f66)), (q43, .inr (9, [.ref q77, .ref q78, .int 1, .int 0])), (q54, .inr (9, [.ref q71, .ref q72, .int 1, .int 0])), (q77, .inl (g.2 0, 10, .inl f65)), (q71, .inl (g.2 0, 10, .inl f65)), (q78, .inl (g.2 0, 10, .inl f79)), (q72, .inl (g.2 0, 10, .inl f79)), (q44, .inl (g.2 0, 60, .inl f65)), (q55, .inl (g.2 0, 60, .inl f65)), (q56, .inl (g.2 0, 20, .inl f80)), (q25, .inr (10, [.ref q29, .int 1, .int 1])), (q1, .inr (11, [.ref q25, w15, w16, w17, w18, w19, w20, w21, .int 0, .int 0, w24])), (q45, .inl (g.2 0, 20, .inl (upd (upd (upd (upd f80 5 x2) 6 x3) 7 x4) 8 x5))), (q32, .inr (8, [.ref q42, .ref q43, .ref q44, .ref q45, .int 0, .int 4, .int 0]))] := hD
  refine lv_i2l (v := 1) hx hb dL_setEnvelope_14 (by decide) ?_
  refine x_last (ws' := [(q6, .inl (g.2 1, 1, .inr (.inl (vp_updL f96 0 1)))), (q29, .inl (g.2 3, 10, .inr (.inr (.inr (.inr f30))))), (q34, .inr (8, [.ref q53, .ref q54, .ref q55, .ref q56, .int 0, .int 4, .int 0])), (q42, .inr (5, [.ref q63, .ref q64])), (q53, .inr (5, [.ref q59, .ref q60])), (q63, .inl (g.2 0, 384, .inl f65)), (q59, .inl (g.2 0, 384, .inl f65)), (q64, .inl (g.2 0, 40, .inl f66)), (q60, .inl (g.2 0, 40, .inl f66)), (q43, .inr (9, [.ref q77, .ref q78, .int 1, .int 0])), (q54, .inr (9, [.ref q71, .ref q72, .int 1, .int 0])), (q77, .inl (g.2 0, 10, .inl f65)), (q71, .inl (g.2 0, 10, .inl f65)), (q78, .inl (g.2 0, 10, .inl f79)), (q72, .inl (g.2 0, 10, .inl f79)), (q44, .inl (g.2 0, 60, .inl f65)), (q55, .inl (g.2 0, 60, .inl f65)), (q56, .inl (g.2 0, 20, .inl f80)), (q25, .inr (10, [.ref q29, .int 1, .int 1])), (q1, .inr (11, [.ref q25, w15, w16, w17, w18, w19, w20, w21, .int 0, .int 0, w24])), (q45, .inl (g.2 0, 20, .inl (upd (upd (upd (upd f80 5 x2) 6 x3) 7 x4) 8 x5))), (q32, .inr (8, [.ref q42, .ref q43, .ref q44, .ref q45, .int 0, .int 4, .int 0]))]) hx hb hE hP hD hS 0 rfl 0 (x_in (by decide)) (by decide) dL_setEnvelope_15 rfl (fun H locs hP hD hS => ?_)
  refine lv_goto (tgt := 27) hx hb dL_setEnvelope_16 (by decide) ?_
  refine lv_iconst (v := 0) hx hb dL_setEnvelope_27 (by decide) ?_
  exact x_zret hx hb hr rfl rfl hlocks hP hD hS hAe hsz (Nat.le_of_ble_eq_true rfl) (Nat.le_of_ble_eq_true rfl) (fun _ => 0) [0] (by decide) rfl dL_setEnvelope_28

set_option maxHeartbeats 4000000 in
set_option maxRecDepth 100000 in
theorem c1972_X10_setEnvelope (l : Launch) (g : gG) (q1 q51 q52 q53 : Nat) (x2 x3 x4 x5 : Int32) (w15 w17 w20 w21 w22 w23 w24 w25 w26 w27 w28 w29 w30 w31 w32 w33 w34 w35 w36 w37 w38 w39 w40 w41 w42 w43 w44 w45 w46 w47 w48 w49 w50 : Value) (f54 : Nat → Int32) (f55 : Nat → Int32) (hf56 : f54 474 = 0) (hf58 : f54 475 = 0) (hf60 : f54 476 = 100) (hf61 : f54 477 = 0) (hf62 : f54 484 = 0) (hf63 : f54 485 = 0) (hf64 : f54 486 = 100) (hf65 : f54 487 = 0) (hf66 : f54 489 = 0) (hf67 : f54 490 = 0) (hf68 : f54 491 = 100) (hf69 : f54 492 = 0) (h6 : (0 : Int32) ≤ x2) (h7 : x2 ≤ 5000) (h8 : (0 : Int32) ≤ x3) (h9 : x3 ≤ 5000) (h10 : (0 : Int32) ≤ x4) (h11 : x4 ≤ 100) (h12 : (0 : Int32) ≤ x5) (h13 : x5 ≤ 5000) (h57 : (0 : Int32) = x2) (h59 : ¬ (0 : Int32) = x3) (sz : Nat) : Met l yX10_setEnvelope [Cond.code yX10_setEnvelope cX10_setEnvelope 12 (some .int)] ({ frames := 2, cells := 0, slots := 0, locals := 42 } : Room) (va_Pc [.ref q1, .int 1, .int x2, .int x3, .int x4, .int x5] (PX g sz [(q53, .inl (g.2 0, 3976, .inl f55)), (q52, .inl (g.2 0, 497, .inl f55)), (q51, .inl (g.2 0, 497, .inl f54)), (q1, .inr (12, [.ref q51, w15, .ref q52, w17, .ref q53, .int 0, w20, w21, w22, w23, w24, w25, w26, w27, w28, w29, w30, w31, w32, w33, w34, w35, w36, w37, w38, w39, w40, w41, w42, w43, w44, w45, w46, w47, w48, w49, w50]))])) (QI g [(q53, .inl (g.2 0, 3976, .inl f55)), (q52, .inl (g.2 0, 497, .inl f55)), (q51, .inl (g.2 0, 497, .inl f54)), (q1, .inr (12, [.ref q51, w15, .ref q52, w17, .ref q53, .int 0, w20, w21, w22, w23, w24, w25, w26, w27, w28, w29, w30, w31, w32, w33, w34, w35, w36, w37, w38, w39, w40, w41, w42, w43, w44, w45, w46, w47, w48, w49, w50]))] sz 1 (fun _ => [(q1, .inr (12, [.ref q51, w15, .ref q52, w17, .ref q53, .int 1, .int 0, w21, w22, w23, w24, w25, w26, w27, w28, w29, w30, w31, w32, w33, w34, w35, w36, w37, w38, w39, w40, w41, w42, w43, w44, w45, w46, w47, w48, w49, w50]))])) 0 0 (va_A [(q53, .inl (g.2 0, 3976, .inl f55)), (q52, .inl (g.2 0, 497, .inl f55)), (q51, .inl (g.2 0, 497, .inl f54)), (q1, .inr (12, [.ref q51, w15, .ref q52, w17, .ref q53, .int 0, w20, w21, w22, w23, w24, w25, w26, w27, w28, w29, w30, w31, w32, w33, w34, w35, w36, w37, w38, w39, w40, w41, w42, w43, w44, w45, w46, w47, w48, w49, w50]))] sz) := by
  refine ofN (by decide) (Nat.le_of_ble_eq_true rfl) rfl ?_
  intro p e s m args below meth c A ls hAe hsz hx hb hml hr hlocks hin hown hE hP hD hA hS hl
  have hown : s.vm.findClass RX10 = some m.cls := hown
  refine lv_iload_n hx hb dX10_setEnvelope_0 rfl (lv_at hl 2 rfl) ?_
  refine lv_iconst (v := 0) hx hb dX10_setEnvelope_1 (by decide) ?_
  refine lv_sipush (v := 5000) hx hb dX10_setEnvelope_2 (by decide) ?_
  refine g0_i (rS (rest := []) hx hb hml hown hE hP hD (c1843_X10_in l g x2 h6 h7 s.heap.size) (kS_X10_in hE (e1431 hE) rfl rfl ⟨(Nat.le_of_ble_eq_true rfl), (Nat.le_of_ble_eq_true rfl)⟩) [] rfl (by decide) rfl hl.1 rfl (lv_room (Nat.le_of_ble_eq_true rfl)) dX10_setEnvelope_5 ⟨(Nat.le_of_ble_eq_true rfl), (Nat.le_of_ble_eq_true rfl)⟩) hP hD hS hA (fun u9 H locs hP hS => ?_)
  refine lv_if_eq (tgt := 49) hx hb dX10_setEnvelope_8 (by decide) (fun h => absurd h (by decide)) (fun _ => ?_)
  refine lv_iload_n hx hb dX10_setEnvelope_11 rfl (lv_at hl 3 rfl) ?_
  refine lv_iconst (v := 0) hx hb dX10_setEnvelope_12 (by decide) ?_
  refine lv_sipush (v := 5000) hx hb dX10_setEnvelope_13 (by decide) ?_
  refine g0_i (rS (rest := []) hx hb hml hown hE hP hD (c1843_X10_in l g x3 h8 h9 H.size) (kS_X10_in hE (e1431 hE) rfl rfl ⟨(Nat.le_of_ble_eq_true rfl), (Nat.le_of_ble_eq_true rfl)⟩) [] rfl (by decide) rfl hl.1 rfl (lv_room (Nat.le_of_ble_eq_true rfl)) dX10_setEnvelope_16 ⟨(Nat.le_of_ble_eq_true rfl), (Nat.le_of_ble_eq_true rfl)⟩) hP hD hS hA (fun u9 H locs hP hS => ?_)
  refine lv_if_eq (tgt := 49) hx hb dX10_setEnvelope_19 (by decide) (fun h => absurd h (by decide)) (fun _ => ?_)
  refine lv_iload hx hb dX10_setEnvelope_22 (lv_at hl 4 rfl) ?_
  refine lv_iconst (v := 0) hx hb dX10_setEnvelope_24 (by decide) ?_
  refine lv_bipush (v := 100) hx hb dX10_setEnvelope_25 (by decide) ?_
  refine g0_i (rS (rest := []) hx hb hml hown hE hP hD (c1849_X10_in l g x4 h10 h11 H.size) (kS_X10_in hE (e1431 hE) rfl rfl ⟨(Nat.le_of_ble_eq_true rfl), (Nat.le_of_ble_eq_true rfl)⟩) [] rfl (by decide) rfl hl.1 rfl (lv_room (Nat.le_of_ble_eq_true rfl)) dX10_setEnvelope_27 ⟨(Nat.le_of_ble_eq_true rfl), (Nat.le_of_ble_eq_true rfl)⟩) hP hD hS hA (fun u9 H locs hP hS => ?_)
  refine lv_if_eq (tgt := 49) hx hb dX10_setEnvelope_30 (by decide) (fun h => absurd h (by decide)) (fun _ => ?_)
  refine lv_iload hx hb dX10_setEnvelope_33 (lv_at hl 5 rfl) ?_
  refine lv_iconst (v := 0) hx hb dX10_setEnvelope_35 (by decide) ?_
  refine lv_sipush (v := 5000) hx hb dX10_setEnvelope_36 (by decide) ?_
  refine g0_i (rS (rest := []) hx hb hml hown hE hP hD (c1843_X10_in l g x5 h12 h13 H.size) (kS_X10_in hE (e1431 hE) rfl rfl ⟨(Nat.le_of_ble_eq_true rfl), (Nat.le_of_ble_eq_true rfl)⟩) [] rfl (by decide) rfl hl.1 rfl (lv_room (Nat.le_of_ble_eq_true rfl)) dX10_setEnvelope_39 ⟨(Nat.le_of_ble_eq_true rfl), (Nat.le_of_ble_eq_true rfl)⟩) hP hD hS hA (fun u9 H locs hP hS => ?_)
  refine lv_if_eq (tgt := 49) hx hb dX10_setEnvelope_42 (by decide) (fun h => absurd h (by decide)) (fun _ => ?_)
  refine lv_iconst (v := 1) hx hb dX10_setEnvelope_45 (by decide) ?_
  refine lv_goto (tgt := 50) hx hb dX10_setEnvelope_46 (by decide) ?_
  refine lv_istore (lv' := [(6, .int 1), (0, .ref q1), (1, .int 1), (2, .int x2), (3, .int x3), (4, .int x4), (5, .int x5)]) hx hb dX10_setEnvelope_50 hl (by decide) rfl (fun ls hl => ?_)
  refine lv_aload_n hx hb dX10_setEnvelope_52 rfl (lv_at hl 1 rfl) ?_
  refine lv_iload_n hx hb dX10_setEnvelope_53 rfl (lv_at hl 2 rfl) ?_
  refine g0_i (rS (rest := [.ref q1]) hx hb hml hown hE hP hD (c1857_X10_isInstrument l g 1 (by decide) (by decide) H.size) (kS_X10_isInstrument hE (e1645 hE) rfl rfl ⟨(Nat.le_of_ble_eq_true rfl), (Nat.le_of_ble_eq_true rfl)⟩) [] rfl (by decide) rfl hl.1 rfl (lv_room (Nat.le_of_ble_eq_true rfl)) dX10_setEnvelope_54 ⟨(Nat.le_of_ble_eq_true rfl), (Nat.le_of_ble_eq_true rfl)⟩) hP hD hS hA (fun u9 H locs hP hS => ?_)
  refine lv_if_ne (tgt := 64) hx hb dX10_setEnvelope_57 (by decide) (fun _ => ?_) (fun h => absurd h (by decide))
  refine lv_iload hx hb dX10_setEnvelope_64 (lv_at hl 0 rfl) ?_
  refine lv_if_ne (tgt := 73) hx hb dX10_setEnvelope_66 (by decide) (fun _ => ?_) (fun h => absurd h (by decide))
  refine lv_iconst (v := 0) hx hb dX10_setEnvelope_73 (by decide) ?_
  refine pf_RX10_86 (ws' := [(q53, .inl (g.2 0, 3976, .inl f55)), (q52, .inl (g.2 0, 497, .inl f55)), (q51, .inl (g.2 0, 497, .inl f54)), (q1, .inr (12, [.ref q51, w15, .ref q52, w17, .ref q53, .int 0, .int 0, w21, w22, w23, w24, w25, w26, w27, w28, w29, w30, w31, w32, w33, w34, w35, w36, w37, w38, w39, w40, w41, w42, w43, w44, w45, w46, w47, w48, w49, w50]))]) hx hb hown hE hP hD hS 3 rfl rfl rfl (Nat.le_of_ble_eq_true rfl) dX10_setEnvelope_74 rfl (fun H locs hP hD hS => ?_)
  refine lv_aload_n hx hb dX10_setEnvelope_77 rfl (lv_at hl 1 rfl) ?_
  refine gf_RX10_86 hx hb hown hE hP 3 rfl rfl dX10_setEnvelope_78 ?_
  refine lv_if_le (tgt := 86) hx hb dX10_setEnvelope_81 (by decide) (fun _ => ?_) (fun h => absurd (by decide) h)
  refine lv_aload_n hx hb dX10_setEnvelope_86 rfl (lv_at hl 1 rfl) ?_
  refine g_v (wr := []) (rV (rest := []) hx hb hml hown hE hP hD 3 rfl rfl (c1714_X10_keepNow l g q1 q51 q52 q53 w15 w17 (.int 0) w21 w22 w23 w24 w25 w26 w27 w28 w29 w30 w31 w32 w33 w34 w35 w36 w37 w38 w39 w40 w41 w42 w43 w44 w45 w46 w47 w48 w49 w50 f54 f55 H.size) (kV_X10_keepNow hE (e1494 hE) rfl rfl ⟨(Nat.le_of_ble_eq_true rfl), (Nat.le_of_ble_eq_true rfl)⟩) [0, 1, 2, 3] rfl (by decide) rfl hl.1 rfl (lv_room (Nat.le_of_ble_eq_true rfl)) dX10_setEnvelope_87 ⟨(Nat.le_of_ble_eq_true rfl), (Nat.le_of_ble_eq_true rfl)⟩) hP hD hS hA [0, 1, 2, 3] [] rfl rfl (by decide) (by decide) (fun u6 H locs hP hD hS => ?_)
  have hP : va_P g.1 vwCl [(q51, .inl (g.2 0, 497, .inl f54)), (q53, .inl (g.2 0, 3976, .inl (cpF 497 (cpF 497 f54 f55) f55))), (q52, .inl (g.2 0, 497, .inl (cpF 497 f54 f55))), (q1, .inr (12, [.ref q51, w15, .ref q52, w17, .ref q53, .int 1, .int 0, w21, w22, w23, w24, w25, w26, w27, w28, w29, w30, w31, w32, w33, w34, w35, w36, w37, w38, w39, w40, w41, w42, w43, w44, w45, w46, w47, w48, w49, w50]))] H := hP
  have hD : va_D A [(q51, .inl (g.2 0, 497, .inl f54)), (q53, .inl (g.2 0, 3976, .inl (cpF 497 (cpF 497 f54 f55) f55))), (q52, .inl (g.2 0, 497, .inl (cpF 497 f54 f55))), (q1, .inr (12, [.ref q51, w15, .ref q52, w17, .ref q53, .int 1, .int 0, w21, w22, w23, w24, w25, w26, w27, w28, w29, w30, w31, w32, w33, w34, w35, w36, w37, w38, w39, w40, w41, w42, w43, w44, w45, w46, w47, w48, w49, w50]))] := hD
  refine lv_sipush (v := 474) hx hb dX10_setEnvelope_90 (by decide) ?_
  refine lv_iconst (v := 5) hx hb dX10_setEnvelope_93 (by decide) ?_
  refine lv_iload_n hx hb dX10_setEnvelope_94 rfl (lv_at hl 2 rfl) ?_
  refine x_imul (v := 5) hx hb dX10_setEnvelope_95 (by decide) ?_
  refine x_iadd (v := 479) hx hb dX10_setEnvelope_96 (by decide) ?_
  refine lv_istore (lv' := [(7, .int 479), (6, .int 1), (0, .ref q1), (1, .int 1), (2, .int x2), (3, .int x3), (4, .int x4), (5, .int x5)]) hx hb dX10_setEnvelope_97 hl (by decide) rfl (fun ls hl => ?_)
  refine lv_aload_n hx hb dX10_setEnvelope_99 rfl (lv_at hl 2 rfl) ?_
  refine gf_RX10_9 hx hb hown hE hP 3 rfl rfl dX10_setEnvelope_100 ?_
  refine lv_iload hx hb dX10_setEnvelope_103 (lv_at hl 0 rfl) ?_
  refine lv_iload_n hx hb dX10_setEnvelope_105 rfl (lv_at hl 4 rfl) ?_
  refine x_iast (ws' := [(q51, .inl (g.2 0, 497, .inl (upd f54 479 x2))), (q53, .inl (g.2 0, 3976, .inl (cpF 497 (cpF 497 f54 f55) f55))), (q52, .inl (g.2 0, 497, .inl (cpF 497 f54 f55))), (q1, .inr (12, [.ref q51, w15, .ref q52, w17, .ref q53, .int 1, .int 0, w21, w22, w23, w24, w25, w26, w27, w28, w29, w30, w31, w32, w33, w34, w35, w36, w37, w38, w39, w40, w41, w42, w43, w44, w45, w46, w47, w48, w49, w50]))]) hx hb hE hP hD hS 0 rfl 479 (x_in (by decide)) (by decide) dX10_setEnvelope_106 rfl (fun H locs hP hD hS => ?_)
  refine lv_aload_n hx hb dX10_setEnvelope_107 rfl (lv_at hl 2 rfl) ?_
  refine gf_RX10_9 hx hb hown hE hP 3 rfl rfl dX10_setEnvelope_108 ?_
  refine lv_iload hx hb dX10_setEnvelope_111 (lv_at hl 0 rfl) ?_
  refine lv_iconst (v := 1) hx hb dX10_setEnvelope_113 (by decide) ?_
  refine x_iadd (v := 480) hx hb dX10_setEnvelope_114 (by decide) ?_
  refine lv_iload_n hx hb dX10_setEnvelope_115 rfl (lv_at hl 5 rfl) ?_
  refine x_iast (ws' := [(q51, .inl (g.2 0, 497, .inl (upd (upd f54 479 x2) 480 x3))), (q53, .inl (g.2 0, 3976, .inl (cpF 497 (cpF 497 f54 f55) f55))), (q52, .inl (g.2 0, 497, .inl (cpF 497 f54 f55))), (q1, .inr (12, [.ref q51, w15, .ref q52, w17, .ref q53, .int 1, .int 0, w21, w22, w23, w24, w25, w26, w27, w28, w29, w30, w31, w32, w33, w34, w35, w36, w37, w38, w39, w40, w41, w42, w43, w44, w45, w46, w47, w48, w49, w50]))]) hx hb hE hP hD hS 0 rfl 480 (x_in (by decide)) (by decide) dX10_setEnvelope_116 rfl (fun H locs hP hD hS => ?_)
  refine lv_aload_n hx hb dX10_setEnvelope_117 rfl (lv_at hl 2 rfl) ?_
  refine gf_RX10_9 hx hb hown hE hP 3 rfl rfl dX10_setEnvelope_118 ?_
  refine lv_iload hx hb dX10_setEnvelope_121 (lv_at hl 0 rfl) ?_
  refine lv_iconst (v := 2) hx hb dX10_setEnvelope_123 (by decide) ?_
  refine x_iadd (v := 481) hx hb dX10_setEnvelope_124 (by decide) ?_
  refine lv_iload hx hb dX10_setEnvelope_125 (lv_at hl 6 rfl) ?_
  refine x_iast (ws' := [(q51, .inl (g.2 0, 497, .inl (upd (upd (upd f54 479 x2) 480 x3) 481 x4))), (q53, .inl (g.2 0, 3976, .inl (cpF 497 (cpF 497 f54 f55) f55))), (q52, .inl (g.2 0, 497, .inl (cpF 497 f54 f55))), (q1, .inr (12, [.ref q51, w15, .ref q52, w17, .ref q53, .int 1, .int 0, w21, w22, w23, w24, w25, w26, w27, w28, w29, w30, w31, w32, w33, w34, w35, w36, w37, w38, w39, w40, w41, w42, w43, w44, w45, w46, w47, w48, w49, w50]))]) hx hb hE hP hD hS 0 rfl 481 (x_in (by decide)) (by decide) dX10_setEnvelope_127 rfl (fun H locs hP hD hS => ?_)
  refine lv_aload_n hx hb dX10_setEnvelope_128 rfl (lv_at hl 2 rfl) ?_
  refine gf_RX10_9 hx hb hown hE hP 3 rfl rfl dX10_setEnvelope_129 ?_
  refine lv_iload hx hb dX10_setEnvelope_132 (lv_at hl 0 rfl) ?_
  refine lv_iconst (v := 3) hx hb dX10_setEnvelope_134 (by decide) ?_
  refine x_iadd (v := 482) hx hb dX10_setEnvelope_135 (by decide) ?_
  refine lv_iload hx hb dX10_setEnvelope_136 (lv_at hl 7 rfl) ?_
  refine x_iast (ws' := [(q51, .inl (g.2 0, 497, .inl (upd (upd (upd (upd f54 479 x2) 480 x3) 481 x4) 482 x5))), (q53, .inl (g.2 0, 3976, .inl (cpF 497 (cpF 497 f54 f55) f55))), (q52, .inl (g.2 0, 497, .inl (cpF 497 f54 f55))), (q1, .inr (12, [.ref q51, w15, .ref q52, w17, .ref q53, .int 1, .int 0, w21, w22, w23, w24, w25, w26, w27, w28, w29, w30, w31, w32, w33, w34, w35, w36, w37, w38, w39, w40, w41, w42, w43, w44, w45, w46, w47, w48, w49, w50]))]) hx hb hE hP hD hS 0 rfl 482 (x_in (by decide)) (by decide) dX10_setEnvelope_138 rfl (fun H locs hP hD hS => ?_)
  refine lv_iconst (v := 0) hx hb dX10_setEnvelope_139 (by decide) ?_
  refine lv_istore (lv' := [(8, .int 0), (7, .int 479), (6, .int 1), (0, .ref q1), (1, .int 1), (2, .int x2), (3, .int x3), (4, .int x4), (5, .int x5)]) hx hb dX10_setEnvelope_140 hl (by decide) rfl (fun ls hl => ?_)
  refine lv_iconst (v := 0) hx hb dX10_setEnvelope_142 (by decide) ?_
  refine lv_istore (lv' := [(9, .int 0), (8, .int 0), (7, .int 479), (6, .int 1), (0, .ref q1), (1, .int 1), (2, .int x2), (3, .int x3), (4, .int x4), (5, .int x5)]) hx hb dX10_setEnvelope_143 hl (by decide) rfl (fun ls hl => ?_)
  refine lv_iload hx hb dX10_setEnvelope_145 (lv_at hl 0 rfl) ?_
  refine lv_iconst (v := 4) hx hb dX10_setEnvelope_147 (by decide) ?_
  refine lv_icmp_ge (tgt := 229) hx hb dX10_setEnvelope_148 (by decide) (fun h => absurd h (by decide)) (fun _ => ?_)
  refine lv_iconst (v := 1) hx hb dX10_setEnvelope_151 (by decide) ?_
  refine lv_istore (lv' := [(10, .int 1), (9, .int 0), (8, .int 0), (7, .int 479), (6, .int 1), (0, .ref q1), (1, .int 1), (2, .int x2), (3, .int x3), (4, .int x4), (5, .int x5)]) hx hb dX10_setEnvelope_152 hl (by decide) rfl (fun ls hl => ?_)
  refine lv_iconst (v := 0) hx hb dX10_setEnvelope_154 (by decide) ?_
  refine lv_istore (lv' := [(11, .int 0), (10, .int 1), (9, .int 0), (8, .int 0), (7, .int 479), (6, .int 1), (0, .ref q1), (1, .int 1), (2, .int x2), (3, .int x3), (4, .int x4), (5, .int x5)]) hx hb dX10_setEnvelope_155 hl (by decide) rfl (fun ls hl => ?_)
  refine lv_iload hx hb dX10_setEnvelope_157 (lv_at hl 0 rfl) ?_
  refine lv_iconst (v := 4) hx hb dX10_setEnvelope_159 (by decide) ?_
  refine lv_icmp_ge (tgt := 208) hx hb dX10_setEnvelope_160 (by decide) (fun h => absurd h (by decide)) (fun _ => ?_)
  refine lv_iload hx hb dX10_setEnvelope_163 (lv_at hl 1 rfl) ?_
  refine lv_aload_n hx hb dX10_setEnvelope_165 rfl (lv_at hl 6 rfl) ?_
  refine gf_RX10_9 hx hb hown hE hP 3 rfl rfl dX10_setEnvelope_166 ?_
  refine lv_sipush (v := 474) hx hb dX10_setEnvelope_169 (by decide) ?_
  refine lv_iconst (v := 5) hx hb dX10_setEnvelope_172 (by decide) ?_
  refine lv_iload hx hb dX10_setEnvelope_173 (lv_at hl 2 rfl) ?_
  refine x_imul (v := 0) hx hb dX10_setEnvelope_175 (by decide) ?_
  refine x_iadd (v := 474) hx hb dX10_setEnvelope_176 (by decide) ?_
  refine lv_iload hx hb dX10_setEnvelope_177 (lv_at hl 0 rfl) ?_
  refine x_iadd (v := 474) hx hb dX10_setEnvelope_179 (by decide) ?_
  refine x_iald (v := 0) hx hb hE hP 0 rfl 474 (x_in (by decide)) (by decide) ((pk_un (by decide)).trans ((pk_un (by decide)).trans ((pk_un (by decide)).trans ((pk_un (by decide)).trans hf56)))) dX10_setEnvelope_180 ?_
  refine lv_aload_n hx hb dX10_setEnvelope_181 rfl (lv_at hl 6 rfl) ?_
  refine gf_RX10_9 hx hb hown hE hP 3 rfl rfl dX10_setEnvelope_182 ?_
  refine lv_iload hx hb dX10_setEnvelope_185 (lv_at hl 4 rfl) ?_
  refine lv_iload hx hb dX10_setEnvelope_187 (lv_at hl 0 rfl) ?_
  refine x_iadd (v := 479) hx hb dX10_setEnvelope_189 (by decide) ?_
  refine x_iald (v := x2) hx hb hE hP 0 rfl 479 (x_in (by decide)) (by decide) ((pk_un (by decide)).trans ((pk_un (by decide)).trans ((pk_un (by decide)).trans pk_us))) dX10_setEnvelope_190 ?_
  refine lv_icmp_ne (tgt := 198) hx hb dX10_setEnvelope_191 (by decide) (fun h => absurd h (i_nne h57)) (fun _ => ?_)
  refine lv_iconst (v := 1) hx hb dX10_setEnvelope_194 (by decide) ?_
  refine lv_goto (tgt := 199) hx hb dX10_setEnvelope_195 (by decide) ?_
  refine x_iand (v := 1) hx hb dX10_setEnvelope_199 (by decide) ?_
  refine lv_istore (lv' := [(10, .int 1), (11, .int 0), (9, .int 0), (8, .int 0), (7, .int 479), (6, .int 1), (0, .ref q1), (1, .int 1), (2, .int x2), (3, .int x3), (4, .int x4), (5, .int x5)]) hx hb dX10_setEnvelope_200 hl (by decide) rfl (fun ls hl => ?_)
  refine lv_iinc (v := 1) (lv' := [(11, .int 1), (10, .int 1), (9, .int 0), (8, .int 0), (7, .int 479), (6, .int 1), (0, .ref q1), (1, .int 1), (2, .int x2), (3, .int x3), (4, .int x4), (5, .int x5)]) hx hb dX10_setEnvelope_202 hl (k := 1) rfl (by decide) (by decide) rfl (fun ls hl => ?_)
  refine lv_goto (tgt := 157) hx hb dX10_setEnvelope_205 (by decide) ?_
  refine lv_iload hx hb dX10_setEnvelope_157 (lv_at hl 0 rfl) ?_
  refine lv_iconst (v := 4) hx hb dX10_setEnvelope_159 (by decide) ?_
  refine lv_icmp_ge (tgt := 208) hx hb dX10_setEnvelope_160 (by decide) (fun h => absurd h (by decide)) (fun _ => ?_)
  refine lv_iload hx hb dX10_setEnvelope_163 (lv_at hl 1 rfl) ?_
  refine lv_aload_n hx hb dX10_setEnvelope_165 rfl (lv_at hl 6 rfl) ?_
  refine gf_RX10_9 hx hb hown hE hP 3 rfl rfl dX10_setEnvelope_166 ?_
  refine lv_sipush (v := 474) hx hb dX10_setEnvelope_169 (by decide) ?_
  refine lv_iconst (v := 5) hx hb dX10_setEnvelope_172 (by decide) ?_
  refine lv_iload hx hb dX10_setEnvelope_173 (lv_at hl 2 rfl) ?_
  refine x_imul (v := 0) hx hb dX10_setEnvelope_175 (by decide) ?_
  refine x_iadd (v := 474) hx hb dX10_setEnvelope_176 (by decide) ?_
  refine lv_iload hx hb dX10_setEnvelope_177 (lv_at hl 0 rfl) ?_
  refine x_iadd (v := 475) hx hb dX10_setEnvelope_179 (by decide) ?_
  refine x_iald (v := 0) hx hb hE hP 0 rfl 475 (x_in (by decide)) (by decide) ((pk_un (by decide)).trans ((pk_un (by decide)).trans ((pk_un (by decide)).trans ((pk_un (by decide)).trans hf58)))) dX10_setEnvelope_180 ?_
  refine lv_aload_n hx hb dX10_setEnvelope_181 rfl (lv_at hl 6 rfl) ?_
  refine gf_RX10_9 hx hb hown hE hP 3 rfl rfl dX10_setEnvelope_182 ?_
  refine lv_iload hx hb dX10_setEnvelope_185 (lv_at hl 4 rfl) ?_
  refine lv_iload hx hb dX10_setEnvelope_187 (lv_at hl 0 rfl) ?_
  refine x_iadd (v := 480) hx hb dX10_setEnvelope_189 (by decide) ?_
  refine x_iald (v := x3) hx hb hE hP 0 rfl 480 (x_in (by decide)) (by decide) ((pk_un (by decide)).trans ((pk_un (by decide)).trans pk_us)) dX10_setEnvelope_190 ?_
  refine lv_icmp_ne (tgt := 198) hx hb dX10_setEnvelope_191 (by decide) (fun _ => ?_) (fun h => absurd h h59)
  refine lv_iconst (v := 0) hx hb dX10_setEnvelope_198 (by decide) ?_
  refine x_iand (v := 0) hx hb dX10_setEnvelope_199 (by decide) ?_
  refine lv_istore (lv' := [(10, .int 0), (11, .int 1), (9, .int 0), (8, .int 0), (7, .int 479), (6, .int 1), (0, .ref q1), (1, .int 1), (2, .int x2), (3, .int x3), (4, .int x4), (5, .int x5)]) hx hb dX10_setEnvelope_200 hl (by decide) rfl (fun ls hl => ?_)
  refine lv_iinc (v := 2) (lv' := [(11, .int 2), (10, .int 0), (9, .int 0), (8, .int 0), (7, .int 479), (6, .int 1), (0, .ref q1), (1, .int 1), (2, .int x2), (3, .int x3), (4, .int x4), (5, .int x5)]) hx hb dX10_setEnvelope_202 hl (k := 1) rfl (by decide) (by decide) rfl (fun ls hl => ?_)
  refine lv_goto (tgt := 157) hx hb dX10_setEnvelope_205 (by decide) ?_
  refine lv_iload hx hb dX10_setEnvelope_157 (lv_at hl 0 rfl) ?_
  refine lv_iconst (v := 4) hx hb dX10_setEnvelope_159 (by decide) ?_
  refine lv_icmp_ge (tgt := 208) hx hb dX10_setEnvelope_160 (by decide) (fun h => absurd h (by decide)) (fun _ => ?_)
  refine lv_iload hx hb dX10_setEnvelope_163 (lv_at hl 1 rfl) ?_
  refine lv_aload_n hx hb dX10_setEnvelope_165 rfl (lv_at hl 6 rfl) ?_
  refine gf_RX10_9 hx hb hown hE hP 3 rfl rfl dX10_setEnvelope_166 ?_
  refine lv_sipush (v := 474) hx hb dX10_setEnvelope_169 (by decide) ?_
  refine lv_iconst (v := 5) hx hb dX10_setEnvelope_172 (by decide) ?_
  refine lv_iload hx hb dX10_setEnvelope_173 (lv_at hl 2 rfl) ?_
  refine x_imul (v := 0) hx hb dX10_setEnvelope_175 (by decide) ?_
  refine x_iadd (v := 474) hx hb dX10_setEnvelope_176 (by decide) ?_
  refine lv_iload hx hb dX10_setEnvelope_177 (lv_at hl 0 rfl) ?_
  refine x_iadd (v := 476) hx hb dX10_setEnvelope_179 (by decide) ?_
  refine x_iald (v := 100) hx hb hE hP 0 rfl 476 (x_in (by decide)) (by decide) ((pk_un (by decide)).trans ((pk_un (by decide)).trans ((pk_un (by decide)).trans ((pk_un (by decide)).trans hf60)))) dX10_setEnvelope_180 ?_
  refine lv_aload_n hx hb dX10_setEnvelope_181 rfl (lv_at hl 6 rfl) ?_
  refine gf_RX10_9 hx hb hown hE hP 3 rfl rfl dX10_setEnvelope_182 ?_
  refine lv_iload hx hb dX10_setEnvelope_185 (lv_at hl 4 rfl) ?_
  refine lv_iload hx hb dX10_setEnvelope_187 (lv_at hl 0 rfl) ?_
  refine x_iadd (v := 481) hx hb dX10_setEnvelope_189 (by decide) ?_
  refine x_iald (v := x4) hx hb hE hP 0 rfl 481 (x_in (by decide)) (by decide) ((pk_un (by decide)).trans pk_us) dX10_setEnvelope_190 ?_
  refine x_and0 hx hb dX10_setEnvelope_191 dX10_setEnvelope_194 dX10_setEnvelope_195 dX10_setEnvelope_198 dX10_setEnvelope_199 ?_
  refine lv_istore (lv' := [(10, .int 0), (11, .int 2), (9, .int 0), (8, .int 0), (7, .int 479), (6, .int 1), (0, .ref q1), (1, .int 1), (2, .int x2), (3, .int x3), (4, .int x4), (5, .int x5)]) hx hb dX10_setEnvelope_200 hl (by decide) rfl (fun ls hl => ?_)
  refine lv_iinc (v := 3) (lv' := [(11, .int 3), (10, .int 0), (9, .int 0), (8, .int 0), (7, .int 479), (6, .int 1), (0, .ref q1), (1, .int 1), (2, .int x2), (3, .int x3), (4, .int x4), (5, .int x5)]) hx hb dX10_setEnvelope_202 hl (k := 1) rfl (by decide) (by decide) rfl (fun ls hl => ?_)
  refine lv_goto (tgt := 157) hx hb dX10_setEnvelope_205 (by decide) ?_
  refine lv_iload hx hb dX10_setEnvelope_157 (lv_at hl 0 rfl) ?_
  refine lv_iconst (v := 4) hx hb dX10_setEnvelope_159 (by decide) ?_
  refine lv_icmp_ge (tgt := 208) hx hb dX10_setEnvelope_160 (by decide) (fun h => absurd h (by decide)) (fun _ => ?_)
  refine lv_iload hx hb dX10_setEnvelope_163 (lv_at hl 1 rfl) ?_
  refine lv_aload_n hx hb dX10_setEnvelope_165 rfl (lv_at hl 6 rfl) ?_
  refine gf_RX10_9 hx hb hown hE hP 3 rfl rfl dX10_setEnvelope_166 ?_
  refine lv_sipush (v := 474) hx hb dX10_setEnvelope_169 (by decide) ?_
  refine lv_iconst (v := 5) hx hb dX10_setEnvelope_172 (by decide) ?_
  refine lv_iload hx hb dX10_setEnvelope_173 (lv_at hl 2 rfl) ?_
  refine x_imul (v := 0) hx hb dX10_setEnvelope_175 (by decide) ?_
  refine x_iadd (v := 474) hx hb dX10_setEnvelope_176 (by decide) ?_
  refine lv_iload hx hb dX10_setEnvelope_177 (lv_at hl 0 rfl) ?_
  refine x_iadd (v := 477) hx hb dX10_setEnvelope_179 (by decide) ?_
  refine x_iald (v := 0) hx hb hE hP 0 rfl 477 (x_in (by decide)) (by decide) ((pk_un (by decide)).trans ((pk_un (by decide)).trans ((pk_un (by decide)).trans ((pk_un (by decide)).trans hf61)))) dX10_setEnvelope_180 ?_
  refine lv_aload_n hx hb dX10_setEnvelope_181 rfl (lv_at hl 6 rfl) ?_
  refine gf_RX10_9 hx hb hown hE hP 3 rfl rfl dX10_setEnvelope_182 ?_
  refine lv_iload hx hb dX10_setEnvelope_185 (lv_at hl 4 rfl) ?_
  refine lv_iload hx hb dX10_setEnvelope_187 (lv_at hl 0 rfl) ?_
  refine x_iadd (v := 482) hx hb dX10_setEnvelope_189 (by decide) ?_
  refine x_iald (v := x5) hx hb hE hP 0 rfl 482 (x_in (by decide)) (by decide) pk_us dX10_setEnvelope_190 ?_
  refine x_and0 hx hb dX10_setEnvelope_191 dX10_setEnvelope_194 dX10_setEnvelope_195 dX10_setEnvelope_198 dX10_setEnvelope_199 ?_
  refine lv_istore (lv' := [(10, .int 0), (11, .int 3), (9, .int 0), (8, .int 0), (7, .int 479), (6, .int 1), (0, .ref q1), (1, .int 1), (2, .int x2), (3, .int x3), (4, .int x4), (5, .int x5)]) hx hb dX10_setEnvelope_200 hl (by decide) rfl (fun ls hl => ?_)
  refine lv_iinc (v := 4) (lv' := [(11, .int 4), (10, .int 0), (9, .int 0), (8, .int 0), (7, .int 479), (6, .int 1), (0, .ref q1), (1, .int 1), (2, .int x2), (3, .int x3), (4, .int x4), (5, .int x5)]) hx hb dX10_setEnvelope_202 hl (k := 1) rfl (by decide) (by decide) rfl (fun ls hl => ?_)
  refine lv_goto (tgt := 157) hx hb dX10_setEnvelope_205 (by decide) ?_
  refine lv_iload hx hb dX10_setEnvelope_157 (lv_at hl 0 rfl) ?_
  refine lv_iconst (v := 4) hx hb dX10_setEnvelope_159 (by decide) ?_
  refine lv_icmp_ge (tgt := 208) hx hb dX10_setEnvelope_160 (by decide) (fun _ => ?_) (fun h => absurd (by decide) h)
  refine lv_iload hx hb dX10_setEnvelope_208 (lv_at hl 3 rfl) ?_
  refine lv_iload hx hb dX10_setEnvelope_210 (lv_at hl 1 rfl) ?_
  refine lv_if_eq (tgt := 219) hx hb dX10_setEnvelope_212 (by decide) (fun _ => ?_) (fun h => absurd (by decide) h)
  refine lv_iconst (v := 0) hx hb dX10_setEnvelope_219 (by decide) ?_
  refine x_iadd (v := 0) hx hb dX10_setEnvelope_220 (by decide) ?_
  refine lv_istore (lv' := [(8, .int 0), (11, .int 4), (10, .int 0), (9, .int 0), (7, .int 479), (6, .int 1), (0, .ref q1), (1, .int 1), (2, .int x2), (3, .int x3), (4, .int x4), (5, .int x5)]) hx hb dX10_setEnvelope_221 hl (by decide) rfl (fun ls hl => ?_)
  refine lv_iinc (v := 1) (lv' := [(9, .int 1), (8, .int 0), (11, .int 4), (10, .int 0), (7, .int 479), (6, .int 1), (0, .ref q1), (1, .int 1), (2, .int x2), (3, .int x3), (4, .int x4), (5, .int x5)]) hx hb dX10_setEnvelope_223 hl (k := 3) rfl (by decide) (by decide) rfl (fun ls hl => ?_)
  refine lv_goto (tgt := 145) hx hb dX10_setEnvelope_226 (by decide) ?_
  refine lv_iload hx hb dX10_setEnvelope_145 (lv_at hl 0 rfl) ?_
  refine lv_iconst (v := 4) hx hb dX10_setEnvelope_147 (by decide) ?_
  refine lv_icmp_ge (tgt := 229) hx hb dX10_setEnvelope_148 (by decide) (fun h => absurd h (by decide)) (fun _ => ?_)
  refine lv_iconst (v := 1) hx hb dX10_setEnvelope_151 (by decide) ?_
  refine lv_istore (lv' := [(10, .int 1), (9, .int 1), (8, .int 0), (11, .int 4), (7, .int 479), (6, .int 1), (0, .ref q1), (1, .int 1), (2, .int x2), (3, .int x3), (4, .int x4), (5, .int x5)]) hx hb dX10_setEnvelope_152 hl (by decide) rfl (fun ls hl => ?_)
  refine lv_iconst (v := 0) hx hb dX10_setEnvelope_154 (by decide) ?_
  refine lv_istore (lv' := [(11, .int 0), (10, .int 1), (9, .int 1), (8, .int 0), (7, .int 479), (6, .int 1), (0, .ref q1), (1, .int 1), (2, .int x2), (3, .int x3), (4, .int x4), (5, .int x5)]) hx hb dX10_setEnvelope_155 hl (by decide) rfl (fun ls hl => ?_)
  refine lv_iload hx hb dX10_setEnvelope_157 (lv_at hl 0 rfl) ?_
  refine lv_iconst (v := 4) hx hb dX10_setEnvelope_159 (by decide) ?_
  refine lv_icmp_ge (tgt := 208) hx hb dX10_setEnvelope_160 (by decide) (fun h => absurd h (by decide)) (fun _ => ?_)
  refine lv_iload hx hb dX10_setEnvelope_163 (lv_at hl 1 rfl) ?_
  refine lv_aload_n hx hb dX10_setEnvelope_165 rfl (lv_at hl 6 rfl) ?_
  refine gf_RX10_9 hx hb hown hE hP 3 rfl rfl dX10_setEnvelope_166 ?_
  refine lv_sipush (v := 474) hx hb dX10_setEnvelope_169 (by decide) ?_
  refine lv_iconst (v := 5) hx hb dX10_setEnvelope_172 (by decide) ?_
  refine lv_iload hx hb dX10_setEnvelope_173 (lv_at hl 2 rfl) ?_
  refine x_imul (v := 5) hx hb dX10_setEnvelope_175 (by decide) ?_
  refine x_iadd (v := 479) hx hb dX10_setEnvelope_176 (by decide) ?_
  refine lv_iload hx hb dX10_setEnvelope_177 (lv_at hl 0 rfl) ?_
  refine x_iadd (v := 479) hx hb dX10_setEnvelope_179 (by decide) ?_
  refine x_iald (v := x2) hx hb hE hP 0 rfl 479 (x_in (by decide)) (by decide) ((pk_un (by decide)).trans ((pk_un (by decide)).trans ((pk_un (by decide)).trans pk_us))) dX10_setEnvelope_180 ?_
  refine lv_aload_n hx hb dX10_setEnvelope_181 rfl (lv_at hl 6 rfl) ?_
  refine gf_RX10_9 hx hb hown hE hP 3 rfl rfl dX10_setEnvelope_182 ?_
  refine lv_iload hx hb dX10_setEnvelope_185 (lv_at hl 4 rfl) ?_
  refine lv_iload hx hb dX10_setEnvelope_187 (lv_at hl 0 rfl) ?_
  refine x_iadd (v := 479) hx hb dX10_setEnvelope_189 (by decide) ?_
  refine x_iald (v := x2) hx hb hE hP 0 rfl 479 (x_in (by decide)) (by decide) ((pk_un (by decide)).trans ((pk_un (by decide)).trans ((pk_un (by decide)).trans pk_us))) dX10_setEnvelope_190 ?_
  refine lv_icmp_ne (tgt := 198) hx hb dX10_setEnvelope_191 (by decide) (fun h => absurd h (i_nne rfl)) (fun _ => ?_)
  refine lv_iconst (v := 1) hx hb dX10_setEnvelope_194 (by decide) ?_
  refine lv_goto (tgt := 199) hx hb dX10_setEnvelope_195 (by decide) ?_
  refine x_iand (v := 1) hx hb dX10_setEnvelope_199 (by decide) ?_
  refine lv_istore (lv' := [(10, .int 1), (11, .int 0), (9, .int 1), (8, .int 0), (7, .int 479), (6, .int 1), (0, .ref q1), (1, .int 1), (2, .int x2), (3, .int x3), (4, .int x4), (5, .int x5)]) hx hb dX10_setEnvelope_200 hl (by decide) rfl (fun ls hl => ?_)
  refine lv_iinc (v := 1) (lv' := [(11, .int 1), (10, .int 1), (9, .int 1), (8, .int 0), (7, .int 479), (6, .int 1), (0, .ref q1), (1, .int 1), (2, .int x2), (3, .int x3), (4, .int x4), (5, .int x5)]) hx hb dX10_setEnvelope_202 hl (k := 1) rfl (by decide) (by decide) rfl (fun ls hl => ?_)
  refine lv_goto (tgt := 157) hx hb dX10_setEnvelope_205 (by decide) ?_
  refine lv_iload hx hb dX10_setEnvelope_157 (lv_at hl 0 rfl) ?_
  refine lv_iconst (v := 4) hx hb dX10_setEnvelope_159 (by decide) ?_
  refine lv_icmp_ge (tgt := 208) hx hb dX10_setEnvelope_160 (by decide) (fun h => absurd h (by decide)) (fun _ => ?_)
  refine lv_iload hx hb dX10_setEnvelope_163 (lv_at hl 1 rfl) ?_
  refine lv_aload_n hx hb dX10_setEnvelope_165 rfl (lv_at hl 6 rfl) ?_
  refine gf_RX10_9 hx hb hown hE hP 3 rfl rfl dX10_setEnvelope_166 ?_
  refine lv_sipush (v := 474) hx hb dX10_setEnvelope_169 (by decide) ?_
  refine lv_iconst (v := 5) hx hb dX10_setEnvelope_172 (by decide) ?_
  refine lv_iload hx hb dX10_setEnvelope_173 (lv_at hl 2 rfl) ?_
  refine x_imul (v := 5) hx hb dX10_setEnvelope_175 (by decide) ?_
  refine x_iadd (v := 479) hx hb dX10_setEnvelope_176 (by decide) ?_
  refine lv_iload hx hb dX10_setEnvelope_177 (lv_at hl 0 rfl) ?_
  refine x_iadd (v := 480) hx hb dX10_setEnvelope_179 (by decide) ?_
  refine x_iald (v := x3) hx hb hE hP 0 rfl 480 (x_in (by decide)) (by decide) ((pk_un (by decide)).trans ((pk_un (by decide)).trans pk_us)) dX10_setEnvelope_180 ?_
  refine lv_aload_n hx hb dX10_setEnvelope_181 rfl (lv_at hl 6 rfl) ?_
  refine gf_RX10_9 hx hb hown hE hP 3 rfl rfl dX10_setEnvelope_182 ?_
  refine lv_iload hx hb dX10_setEnvelope_185 (lv_at hl 4 rfl) ?_
  refine lv_iload hx hb dX10_setEnvelope_187 (lv_at hl 0 rfl) ?_
  refine x_iadd (v := 480) hx hb dX10_setEnvelope_189 (by decide) ?_
  refine x_iald (v := x3) hx hb hE hP 0 rfl 480 (x_in (by decide)) (by decide) ((pk_un (by decide)).trans ((pk_un (by decide)).trans pk_us)) dX10_setEnvelope_190 ?_
  refine lv_icmp_ne (tgt := 198) hx hb dX10_setEnvelope_191 (by decide) (fun h => absurd h (i_nne rfl)) (fun _ => ?_)
  refine lv_iconst (v := 1) hx hb dX10_setEnvelope_194 (by decide) ?_
  refine lv_goto (tgt := 199) hx hb dX10_setEnvelope_195 (by decide) ?_
  refine x_iand (v := 1) hx hb dX10_setEnvelope_199 (by decide) ?_
  refine lv_istore (lv' := [(10, .int 1), (11, .int 1), (9, .int 1), (8, .int 0), (7, .int 479), (6, .int 1), (0, .ref q1), (1, .int 1), (2, .int x2), (3, .int x3), (4, .int x4), (5, .int x5)]) hx hb dX10_setEnvelope_200 hl (by decide) rfl (fun ls hl => ?_)
  refine lv_iinc (v := 2) (lv' := [(11, .int 2), (10, .int 1), (9, .int 1), (8, .int 0), (7, .int 479), (6, .int 1), (0, .ref q1), (1, .int 1), (2, .int x2), (3, .int x3), (4, .int x4), (5, .int x5)]) hx hb dX10_setEnvelope_202 hl (k := 1) rfl (by decide) (by decide) rfl (fun ls hl => ?_)
  refine lv_goto (tgt := 157) hx hb dX10_setEnvelope_205 (by decide) ?_
  refine lv_iload hx hb dX10_setEnvelope_157 (lv_at hl 0 rfl) ?_
  refine lv_iconst (v := 4) hx hb dX10_setEnvelope_159 (by decide) ?_
  refine lv_icmp_ge (tgt := 208) hx hb dX10_setEnvelope_160 (by decide) (fun h => absurd h (by decide)) (fun _ => ?_)
  refine lv_iload hx hb dX10_setEnvelope_163 (lv_at hl 1 rfl) ?_
  refine lv_aload_n hx hb dX10_setEnvelope_165 rfl (lv_at hl 6 rfl) ?_
  refine gf_RX10_9 hx hb hown hE hP 3 rfl rfl dX10_setEnvelope_166 ?_
  refine lv_sipush (v := 474) hx hb dX10_setEnvelope_169 (by decide) ?_
  refine lv_iconst (v := 5) hx hb dX10_setEnvelope_172 (by decide) ?_
  refine lv_iload hx hb dX10_setEnvelope_173 (lv_at hl 2 rfl) ?_
  refine x_imul (v := 5) hx hb dX10_setEnvelope_175 (by decide) ?_
  refine x_iadd (v := 479) hx hb dX10_setEnvelope_176 (by decide) ?_
  refine lv_iload hx hb dX10_setEnvelope_177 (lv_at hl 0 rfl) ?_
  refine x_iadd (v := 481) hx hb dX10_setEnvelope_179 (by decide) ?_
  refine x_iald (v := x4) hx hb hE hP 0 rfl 481 (x_in (by decide)) (by decide) ((pk_un (by decide)).trans pk_us) dX10_setEnvelope_180 ?_
  refine lv_aload_n hx hb dX10_setEnvelope_181 rfl (lv_at hl 6 rfl) ?_
  refine gf_RX10_9 hx hb hown hE hP 3 rfl rfl dX10_setEnvelope_182 ?_
  refine lv_iload hx hb dX10_setEnvelope_185 (lv_at hl 4 rfl) ?_
  refine lv_iload hx hb dX10_setEnvelope_187 (lv_at hl 0 rfl) ?_
  refine x_iadd (v := 481) hx hb dX10_setEnvelope_189 (by decide) ?_
  refine x_iald (v := x4) hx hb hE hP 0 rfl 481 (x_in (by decide)) (by decide) ((pk_un (by decide)).trans pk_us) dX10_setEnvelope_190 ?_
  refine lv_icmp_ne (tgt := 198) hx hb dX10_setEnvelope_191 (by decide) (fun h => absurd h (i_nne rfl)) (fun _ => ?_)
  refine lv_iconst (v := 1) hx hb dX10_setEnvelope_194 (by decide) ?_
  refine lv_goto (tgt := 199) hx hb dX10_setEnvelope_195 (by decide) ?_
  refine x_iand (v := 1) hx hb dX10_setEnvelope_199 (by decide) ?_
  refine lv_istore (lv' := [(10, .int 1), (11, .int 2), (9, .int 1), (8, .int 0), (7, .int 479), (6, .int 1), (0, .ref q1), (1, .int 1), (2, .int x2), (3, .int x3), (4, .int x4), (5, .int x5)]) hx hb dX10_setEnvelope_200 hl (by decide) rfl (fun ls hl => ?_)
  refine lv_iinc (v := 3) (lv' := [(11, .int 3), (10, .int 1), (9, .int 1), (8, .int 0), (7, .int 479), (6, .int 1), (0, .ref q1), (1, .int 1), (2, .int x2), (3, .int x3), (4, .int x4), (5, .int x5)]) hx hb dX10_setEnvelope_202 hl (k := 1) rfl (by decide) (by decide) rfl (fun ls hl => ?_)
  refine lv_goto (tgt := 157) hx hb dX10_setEnvelope_205 (by decide) ?_
  refine lv_iload hx hb dX10_setEnvelope_157 (lv_at hl 0 rfl) ?_
  refine lv_iconst (v := 4) hx hb dX10_setEnvelope_159 (by decide) ?_
  refine lv_icmp_ge (tgt := 208) hx hb dX10_setEnvelope_160 (by decide) (fun h => absurd h (by decide)) (fun _ => ?_)
  refine lv_iload hx hb dX10_setEnvelope_163 (lv_at hl 1 rfl) ?_
  refine lv_aload_n hx hb dX10_setEnvelope_165 rfl (lv_at hl 6 rfl) ?_
  refine gf_RX10_9 hx hb hown hE hP 3 rfl rfl dX10_setEnvelope_166 ?_
  refine lv_sipush (v := 474) hx hb dX10_setEnvelope_169 (by decide) ?_
  refine lv_iconst (v := 5) hx hb dX10_setEnvelope_172 (by decide) ?_
  refine lv_iload hx hb dX10_setEnvelope_173 (lv_at hl 2 rfl) ?_
  refine x_imul (v := 5) hx hb dX10_setEnvelope_175 (by decide) ?_
  refine x_iadd (v := 479) hx hb dX10_setEnvelope_176 (by decide) ?_
  refine lv_iload hx hb dX10_setEnvelope_177 (lv_at hl 0 rfl) ?_
  refine x_iadd (v := 482) hx hb dX10_setEnvelope_179 (by decide) ?_
  refine x_iald (v := x5) hx hb hE hP 0 rfl 482 (x_in (by decide)) (by decide) pk_us dX10_setEnvelope_180 ?_
  refine lv_aload_n hx hb dX10_setEnvelope_181 rfl (lv_at hl 6 rfl) ?_
  refine gf_RX10_9 hx hb hown hE hP 3 rfl rfl dX10_setEnvelope_182 ?_
  refine lv_iload hx hb dX10_setEnvelope_185 (lv_at hl 4 rfl) ?_
  refine lv_iload hx hb dX10_setEnvelope_187 (lv_at hl 0 rfl) ?_
  refine x_iadd (v := 482) hx hb dX10_setEnvelope_189 (by decide) ?_
  refine x_iald (v := x5) hx hb hE hP 0 rfl 482 (x_in (by decide)) (by decide) pk_us dX10_setEnvelope_190 ?_
  refine lv_icmp_ne (tgt := 198) hx hb dX10_setEnvelope_191 (by decide) (fun h => absurd h (i_nne rfl)) (fun _ => ?_)
  refine lv_iconst (v := 1) hx hb dX10_setEnvelope_194 (by decide) ?_
  refine lv_goto (tgt := 199) hx hb dX10_setEnvelope_195 (by decide) ?_
  refine x_iand (v := 1) hx hb dX10_setEnvelope_199 (by decide) ?_
  refine lv_istore (lv' := [(10, .int 1), (11, .int 3), (9, .int 1), (8, .int 0), (7, .int 479), (6, .int 1), (0, .ref q1), (1, .int 1), (2, .int x2), (3, .int x3), (4, .int x4), (5, .int x5)]) hx hb dX10_setEnvelope_200 hl (by decide) rfl (fun ls hl => ?_)
  refine lv_iinc (v := 4) (lv' := [(11, .int 4), (10, .int 1), (9, .int 1), (8, .int 0), (7, .int 479), (6, .int 1), (0, .ref q1), (1, .int 1), (2, .int x2), (3, .int x3), (4, .int x4), (5, .int x5)]) hx hb dX10_setEnvelope_202 hl (k := 1) rfl (by decide) (by decide) rfl (fun ls hl => ?_)
  refine lv_goto (tgt := 157) hx hb dX10_setEnvelope_205 (by decide) ?_
  refine lv_iload hx hb dX10_setEnvelope_157 (lv_at hl 0 rfl) ?_
  refine lv_iconst (v := 4) hx hb dX10_setEnvelope_159 (by decide) ?_
  refine lv_icmp_ge (tgt := 208) hx hb dX10_setEnvelope_160 (by decide) (fun _ => ?_) (fun h => absurd (by decide) h)
  refine lv_iload hx hb dX10_setEnvelope_208 (lv_at hl 3 rfl) ?_
  refine lv_iload hx hb dX10_setEnvelope_210 (lv_at hl 1 rfl) ?_
  refine lv_if_eq (tgt := 219) hx hb dX10_setEnvelope_212 (by decide) (fun h => absurd h (by decide)) (fun _ => ?_)
  refine lv_iconst (v := 1) hx hb dX10_setEnvelope_215 (by decide) ?_
  refine lv_goto (tgt := 220) hx hb dX10_setEnvelope_216 (by decide) ?_
  refine x_iadd (v := 1) hx hb dX10_setEnvelope_220 (by decide) ?_
  refine lv_istore (lv' := [(8, .int 1), (11, .int 4), (10, .int 1), (9, .int 1), (7, .int 479), (6, .int 1), (0, .ref q1), (1, .int 1), (2, .int x2), (3, .int x3), (4, .int x4), (5, .int x5)]) hx hb dX10_setEnvelope_221 hl (by decide) rfl (fun ls hl => ?_)
  refine lv_iinc (v := 2) (lv' := [(9, .int 2), (8, .int 1), (11, .int 4), (10, .int 1), (7, .int 479), (6, .int 1), (0, .ref q1), (1, .int 1), (2, .int x2), (3, .int x3), (4, .int x4), (5, .int x5)]) hx hb dX10_setEnvelope_223 hl (k := 3) rfl (by decide) (by decide) rfl (fun ls hl => ?_)
  refine lv_goto (tgt := 145) hx hb dX10_setEnvelope_226 (by decide) ?_
  refine lv_iload hx hb dX10_setEnvelope_145 (lv_at hl 0 rfl) ?_
  refine lv_iconst (v := 4) hx hb dX10_setEnvelope_147 (by decide) ?_
  refine lv_icmp_ge (tgt := 229) hx hb dX10_setEnvelope_148 (by decide) (fun h => absurd h (by decide)) (fun _ => ?_)
  refine lv_iconst (v := 1) hx hb dX10_setEnvelope_151 (by decide) ?_
  refine lv_istore (lv' := [(10, .int 1), (9, .int 2), (8, .int 1), (11, .int 4), (7, .int 479), (6, .int 1), (0, .ref q1), (1, .int 1), (2, .int x2), (3, .int x3), (4, .int x4), (5, .int x5)]) hx hb dX10_setEnvelope_152 hl (by decide) rfl (fun ls hl => ?_)
  refine lv_iconst (v := 0) hx hb dX10_setEnvelope_154 (by decide) ?_
  refine lv_istore (lv' := [(11, .int 0), (10, .int 1), (9, .int 2), (8, .int 1), (7, .int 479), (6, .int 1), (0, .ref q1), (1, .int 1), (2, .int x2), (3, .int x3), (4, .int x4), (5, .int x5)]) hx hb dX10_setEnvelope_155 hl (by decide) rfl (fun ls hl => ?_)
  refine lv_iload hx hb dX10_setEnvelope_157 (lv_at hl 0 rfl) ?_
  refine lv_iconst (v := 4) hx hb dX10_setEnvelope_159 (by decide) ?_
  refine lv_icmp_ge (tgt := 208) hx hb dX10_setEnvelope_160 (by decide) (fun h => absurd h (by decide)) (fun _ => ?_)
  refine lv_iload hx hb dX10_setEnvelope_163 (lv_at hl 1 rfl) ?_
  refine lv_aload_n hx hb dX10_setEnvelope_165 rfl (lv_at hl 6 rfl) ?_
  refine gf_RX10_9 hx hb hown hE hP 3 rfl rfl dX10_setEnvelope_166 ?_
  refine lv_sipush (v := 474) hx hb dX10_setEnvelope_169 (by decide) ?_
  refine lv_iconst (v := 5) hx hb dX10_setEnvelope_172 (by decide) ?_
  refine lv_iload hx hb dX10_setEnvelope_173 (lv_at hl 2 rfl) ?_
  refine x_imul (v := 10) hx hb dX10_setEnvelope_175 (by decide) ?_
  refine x_iadd (v := 484) hx hb dX10_setEnvelope_176 (by decide) ?_
  refine lv_iload hx hb dX10_setEnvelope_177 (lv_at hl 0 rfl) ?_
  refine x_iadd (v := 484) hx hb dX10_setEnvelope_179 (by decide) ?_
  refine x_iald (v := 0) hx hb hE hP 0 rfl 484 (x_in (by decide)) (by decide) ((pk_un (by decide)).trans ((pk_un (by decide)).trans ((pk_un (by decide)).trans ((pk_un (by decide)).trans hf62)))) dX10_setEnvelope_180 ?_
  refine lv_aload_n hx hb dX10_setEnvelope_181 rfl (lv_at hl 6 rfl) ?_
  refine gf_RX10_9 hx hb hown hE hP 3 rfl rfl dX10_setEnvelope_182 ?_
  refine lv_iload hx hb dX10_setEnvelope_185 (lv_at hl 4 rfl) ?_
  refine lv_iload hx hb dX10_setEnvelope_187 (lv_at hl 0 rfl) ?_
  refine x_iadd (v := 479) hx hb dX10_setEnvelope_189 (by decide) ?_
  refine x_iald (v := x2) hx hb hE hP 0 rfl 479 (x_in (by decide)) (by decide) ((pk_un (by decide)).trans ((pk_un (by decide)).trans ((pk_un (by decide)).trans pk_us))) dX10_setEnvelope_190 ?_
  refine lv_icmp_ne (tgt := 198) hx hb dX10_setEnvelope_191 (by decide) (fun h => absurd h (i_nne h57)) (fun _ => ?_)
  refine lv_iconst (v := 1) hx hb dX10_setEnvelope_194 (by decide) ?_
  refine lv_goto (tgt := 199) hx hb dX10_setEnvelope_195 (by decide) ?_
  refine x_iand (v := 1) hx hb dX10_setEnvelope_199 (by decide) ?_
  refine lv_istore (lv' := [(10, .int 1), (11, .int 0), (9, .int 2), (8, .int 1), (7, .int 479), (6, .int 1), (0, .ref q1), (1, .int 1), (2, .int x2), (3, .int x3), (4, .int x4), (5, .int x5)]) hx hb dX10_setEnvelope_200 hl (by decide) rfl (fun ls hl => ?_)
  refine lv_iinc (v := 1) (lv' := [(11, .int 1), (10, .int 1), (9, .int 2), (8, .int 1), (7, .int 479), (6, .int 1), (0, .ref q1), (1, .int 1), (2, .int x2), (3, .int x3), (4, .int x4), (5, .int x5)]) hx hb dX10_setEnvelope_202 hl (k := 1) rfl (by decide) (by decide) rfl (fun ls hl => ?_)
  refine lv_goto (tgt := 157) hx hb dX10_setEnvelope_205 (by decide) ?_
  refine lv_iload hx hb dX10_setEnvelope_157 (lv_at hl 0 rfl) ?_
  refine lv_iconst (v := 4) hx hb dX10_setEnvelope_159 (by decide) ?_
  refine lv_icmp_ge (tgt := 208) hx hb dX10_setEnvelope_160 (by decide) (fun h => absurd h (by decide)) (fun _ => ?_)
  refine lv_iload hx hb dX10_setEnvelope_163 (lv_at hl 1 rfl) ?_
  refine lv_aload_n hx hb dX10_setEnvelope_165 rfl (lv_at hl 6 rfl) ?_
  refine gf_RX10_9 hx hb hown hE hP 3 rfl rfl dX10_setEnvelope_166 ?_
  refine lv_sipush (v := 474) hx hb dX10_setEnvelope_169 (by decide) ?_
  refine lv_iconst (v := 5) hx hb dX10_setEnvelope_172 (by decide) ?_
  refine lv_iload hx hb dX10_setEnvelope_173 (lv_at hl 2 rfl) ?_
  refine x_imul (v := 10) hx hb dX10_setEnvelope_175 (by decide) ?_
  refine x_iadd (v := 484) hx hb dX10_setEnvelope_176 (by decide) ?_
  refine lv_iload hx hb dX10_setEnvelope_177 (lv_at hl 0 rfl) ?_
  refine x_iadd (v := 485) hx hb dX10_setEnvelope_179 (by decide) ?_
  refine x_iald (v := 0) hx hb hE hP 0 rfl 485 (x_in (by decide)) (by decide) ((pk_un (by decide)).trans ((pk_un (by decide)).trans ((pk_un (by decide)).trans ((pk_un (by decide)).trans hf63)))) dX10_setEnvelope_180 ?_
  refine lv_aload_n hx hb dX10_setEnvelope_181 rfl (lv_at hl 6 rfl) ?_
  refine gf_RX10_9 hx hb hown hE hP 3 rfl rfl dX10_setEnvelope_182 ?_
  refine lv_iload hx hb dX10_setEnvelope_185 (lv_at hl 4 rfl) ?_
  refine lv_iload hx hb dX10_setEnvelope_187 (lv_at hl 0 rfl) ?_
  refine x_iadd (v := 480) hx hb dX10_setEnvelope_189 (by decide) ?_
  refine x_iald (v := x3) hx hb hE hP 0 rfl 480 (x_in (by decide)) (by decide) ((pk_un (by decide)).trans ((pk_un (by decide)).trans pk_us)) dX10_setEnvelope_190 ?_
  refine lv_icmp_ne (tgt := 198) hx hb dX10_setEnvelope_191 (by decide) (fun _ => ?_) (fun h => absurd h h59)
  refine lv_iconst (v := 0) hx hb dX10_setEnvelope_198 (by decide) ?_
  refine x_iand (v := 0) hx hb dX10_setEnvelope_199 (by decide) ?_
  refine lv_istore (lv' := [(10, .int 0), (11, .int 1), (9, .int 2), (8, .int 1), (7, .int 479), (6, .int 1), (0, .ref q1), (1, .int 1), (2, .int x2), (3, .int x3), (4, .int x4), (5, .int x5)]) hx hb dX10_setEnvelope_200 hl (by decide) rfl (fun ls hl => ?_)
  refine lv_iinc (v := 2) (lv' := [(11, .int 2), (10, .int 0), (9, .int 2), (8, .int 1), (7, .int 479), (6, .int 1), (0, .ref q1), (1, .int 1), (2, .int x2), (3, .int x3), (4, .int x4), (5, .int x5)]) hx hb dX10_setEnvelope_202 hl (k := 1) rfl (by decide) (by decide) rfl (fun ls hl => ?_)
  refine lv_goto (tgt := 157) hx hb dX10_setEnvelope_205 (by decide) ?_
  refine lv_iload hx hb dX10_setEnvelope_157 (lv_at hl 0 rfl) ?_
  refine lv_iconst (v := 4) hx hb dX10_setEnvelope_159 (by decide) ?_
  refine lv_icmp_ge (tgt := 208) hx hb dX10_setEnvelope_160 (by decide) (fun h => absurd h (by decide)) (fun _ => ?_)
  refine lv_iload hx hb dX10_setEnvelope_163 (lv_at hl 1 rfl) ?_
  refine lv_aload_n hx hb dX10_setEnvelope_165 rfl (lv_at hl 6 rfl) ?_
  refine gf_RX10_9 hx hb hown hE hP 3 rfl rfl dX10_setEnvelope_166 ?_
  refine lv_sipush (v := 474) hx hb dX10_setEnvelope_169 (by decide) ?_
  refine lv_iconst (v := 5) hx hb dX10_setEnvelope_172 (by decide) ?_
  refine lv_iload hx hb dX10_setEnvelope_173 (lv_at hl 2 rfl) ?_
  refine x_imul (v := 10) hx hb dX10_setEnvelope_175 (by decide) ?_
  refine x_iadd (v := 484) hx hb dX10_setEnvelope_176 (by decide) ?_
  refine lv_iload hx hb dX10_setEnvelope_177 (lv_at hl 0 rfl) ?_
  refine x_iadd (v := 486) hx hb dX10_setEnvelope_179 (by decide) ?_
  refine x_iald (v := 100) hx hb hE hP 0 rfl 486 (x_in (by decide)) (by decide) ((pk_un (by decide)).trans ((pk_un (by decide)).trans ((pk_un (by decide)).trans ((pk_un (by decide)).trans hf64)))) dX10_setEnvelope_180 ?_
  refine lv_aload_n hx hb dX10_setEnvelope_181 rfl (lv_at hl 6 rfl) ?_
  refine gf_RX10_9 hx hb hown hE hP 3 rfl rfl dX10_setEnvelope_182 ?_
  refine lv_iload hx hb dX10_setEnvelope_185 (lv_at hl 4 rfl) ?_
  refine lv_iload hx hb dX10_setEnvelope_187 (lv_at hl 0 rfl) ?_
  refine x_iadd (v := 481) hx hb dX10_setEnvelope_189 (by decide) ?_
  refine x_iald (v := x4) hx hb hE hP 0 rfl 481 (x_in (by decide)) (by decide) ((pk_un (by decide)).trans pk_us) dX10_setEnvelope_190 ?_
  refine x_and0 hx hb dX10_setEnvelope_191 dX10_setEnvelope_194 dX10_setEnvelope_195 dX10_setEnvelope_198 dX10_setEnvelope_199 ?_
  refine lv_istore (lv' := [(10, .int 0), (11, .int 2), (9, .int 2), (8, .int 1), (7, .int 479), (6, .int 1), (0, .ref q1), (1, .int 1), (2, .int x2), (3, .int x3), (4, .int x4), (5, .int x5)]) hx hb dX10_setEnvelope_200 hl (by decide) rfl (fun ls hl => ?_)
  refine lv_iinc (v := 3) (lv' := [(11, .int 3), (10, .int 0), (9, .int 2), (8, .int 1), (7, .int 479), (6, .int 1), (0, .ref q1), (1, .int 1), (2, .int x2), (3, .int x3), (4, .int x4), (5, .int x5)]) hx hb dX10_setEnvelope_202 hl (k := 1) rfl (by decide) (by decide) rfl (fun ls hl => ?_)
  refine lv_goto (tgt := 157) hx hb dX10_setEnvelope_205 (by decide) ?_
  refine lv_iload hx hb dX10_setEnvelope_157 (lv_at hl 0 rfl) ?_
  refine lv_iconst (v := 4) hx hb dX10_setEnvelope_159 (by decide) ?_
  refine lv_icmp_ge (tgt := 208) hx hb dX10_setEnvelope_160 (by decide) (fun h => absurd h (by decide)) (fun _ => ?_)
  refine lv_iload hx hb dX10_setEnvelope_163 (lv_at hl 1 rfl) ?_
  refine lv_aload_n hx hb dX10_setEnvelope_165 rfl (lv_at hl 6 rfl) ?_
  refine gf_RX10_9 hx hb hown hE hP 3 rfl rfl dX10_setEnvelope_166 ?_
  refine lv_sipush (v := 474) hx hb dX10_setEnvelope_169 (by decide) ?_
  refine lv_iconst (v := 5) hx hb dX10_setEnvelope_172 (by decide) ?_
  refine lv_iload hx hb dX10_setEnvelope_173 (lv_at hl 2 rfl) ?_
  refine x_imul (v := 10) hx hb dX10_setEnvelope_175 (by decide) ?_
  refine x_iadd (v := 484) hx hb dX10_setEnvelope_176 (by decide) ?_
  refine lv_iload hx hb dX10_setEnvelope_177 (lv_at hl 0 rfl) ?_
  refine x_iadd (v := 487) hx hb dX10_setEnvelope_179 (by decide) ?_
  refine x_iald (v := 0) hx hb hE hP 0 rfl 487 (x_in (by decide)) (by decide) ((pk_un (by decide)).trans ((pk_un (by decide)).trans ((pk_un (by decide)).trans ((pk_un (by decide)).trans hf65)))) dX10_setEnvelope_180 ?_
  refine lv_aload_n hx hb dX10_setEnvelope_181 rfl (lv_at hl 6 rfl) ?_
  refine gf_RX10_9 hx hb hown hE hP 3 rfl rfl dX10_setEnvelope_182 ?_
  refine lv_iload hx hb dX10_setEnvelope_185 (lv_at hl 4 rfl) ?_
  refine lv_iload hx hb dX10_setEnvelope_187 (lv_at hl 0 rfl) ?_
  refine x_iadd (v := 482) hx hb dX10_setEnvelope_189 (by decide) ?_
  refine x_iald (v := x5) hx hb hE hP 0 rfl 482 (x_in (by decide)) (by decide) pk_us dX10_setEnvelope_190 ?_
  refine x_and0 hx hb dX10_setEnvelope_191 dX10_setEnvelope_194 dX10_setEnvelope_195 dX10_setEnvelope_198 dX10_setEnvelope_199 ?_
  refine lv_istore (lv' := [(10, .int 0), (11, .int 3), (9, .int 2), (8, .int 1), (7, .int 479), (6, .int 1), (0, .ref q1), (1, .int 1), (2, .int x2), (3, .int x3), (4, .int x4), (5, .int x5)]) hx hb dX10_setEnvelope_200 hl (by decide) rfl (fun ls hl => ?_)
  refine lv_iinc (v := 4) (lv' := [(11, .int 4), (10, .int 0), (9, .int 2), (8, .int 1), (7, .int 479), (6, .int 1), (0, .ref q1), (1, .int 1), (2, .int x2), (3, .int x3), (4, .int x4), (5, .int x5)]) hx hb dX10_setEnvelope_202 hl (k := 1) rfl (by decide) (by decide) rfl (fun ls hl => ?_)
  refine lv_goto (tgt := 157) hx hb dX10_setEnvelope_205 (by decide) ?_
  refine lv_iload hx hb dX10_setEnvelope_157 (lv_at hl 0 rfl) ?_
  refine lv_iconst (v := 4) hx hb dX10_setEnvelope_159 (by decide) ?_
  refine lv_icmp_ge (tgt := 208) hx hb dX10_setEnvelope_160 (by decide) (fun _ => ?_) (fun h => absurd (by decide) h)
  refine lv_iload hx hb dX10_setEnvelope_208 (lv_at hl 3 rfl) ?_
  refine lv_iload hx hb dX10_setEnvelope_210 (lv_at hl 1 rfl) ?_
  refine lv_if_eq (tgt := 219) hx hb dX10_setEnvelope_212 (by decide) (fun _ => ?_) (fun h => absurd (by decide) h)
  refine lv_iconst (v := 0) hx hb dX10_setEnvelope_219 (by decide) ?_
  refine x_iadd (v := 1) hx hb dX10_setEnvelope_220 (by decide) ?_
  refine lv_istore (lv' := [(8, .int 1), (11, .int 4), (10, .int 0), (9, .int 2), (7, .int 479), (6, .int 1), (0, .ref q1), (1, .int 1), (2, .int x2), (3, .int x3), (4, .int x4), (5, .int x5)]) hx hb dX10_setEnvelope_221 hl (by decide) rfl (fun ls hl => ?_)
  refine lv_iinc (v := 3) (lv' := [(9, .int 3), (8, .int 1), (11, .int 4), (10, .int 0), (7, .int 479), (6, .int 1), (0, .ref q1), (1, .int 1), (2, .int x2), (3, .int x3), (4, .int x4), (5, .int x5)]) hx hb dX10_setEnvelope_223 hl (k := 3) rfl (by decide) (by decide) rfl (fun ls hl => ?_)
  refine lv_goto (tgt := 145) hx hb dX10_setEnvelope_226 (by decide) ?_
  refine lv_iload hx hb dX10_setEnvelope_145 (lv_at hl 0 rfl) ?_
  refine lv_iconst (v := 4) hx hb dX10_setEnvelope_147 (by decide) ?_
  refine lv_icmp_ge (tgt := 229) hx hb dX10_setEnvelope_148 (by decide) (fun h => absurd h (by decide)) (fun _ => ?_)
  refine lv_iconst (v := 1) hx hb dX10_setEnvelope_151 (by decide) ?_
  refine lv_istore (lv' := [(10, .int 1), (9, .int 3), (8, .int 1), (11, .int 4), (7, .int 479), (6, .int 1), (0, .ref q1), (1, .int 1), (2, .int x2), (3, .int x3), (4, .int x4), (5, .int x5)]) hx hb dX10_setEnvelope_152 hl (by decide) rfl (fun ls hl => ?_)
  refine lv_iconst (v := 0) hx hb dX10_setEnvelope_154 (by decide) ?_
  refine lv_istore (lv' := [(11, .int 0), (10, .int 1), (9, .int 3), (8, .int 1), (7, .int 479), (6, .int 1), (0, .ref q1), (1, .int 1), (2, .int x2), (3, .int x3), (4, .int x4), (5, .int x5)]) hx hb dX10_setEnvelope_155 hl (by decide) rfl (fun ls hl => ?_)
  refine lv_iload hx hb dX10_setEnvelope_157 (lv_at hl 0 rfl) ?_
  refine lv_iconst (v := 4) hx hb dX10_setEnvelope_159 (by decide) ?_
  refine lv_icmp_ge (tgt := 208) hx hb dX10_setEnvelope_160 (by decide) (fun h => absurd h (by decide)) (fun _ => ?_)
  refine lv_iload hx hb dX10_setEnvelope_163 (lv_at hl 1 rfl) ?_
  refine lv_aload_n hx hb dX10_setEnvelope_165 rfl (lv_at hl 6 rfl) ?_
  refine gf_RX10_9 hx hb hown hE hP 3 rfl rfl dX10_setEnvelope_166 ?_
  refine lv_sipush (v := 474) hx hb dX10_setEnvelope_169 (by decide) ?_
  refine lv_iconst (v := 5) hx hb dX10_setEnvelope_172 (by decide) ?_
  refine lv_iload hx hb dX10_setEnvelope_173 (lv_at hl 2 rfl) ?_
  refine x_imul (v := 15) hx hb dX10_setEnvelope_175 (by decide) ?_
  refine x_iadd (v := 489) hx hb dX10_setEnvelope_176 (by decide) ?_
  refine lv_iload hx hb dX10_setEnvelope_177 (lv_at hl 0 rfl) ?_
  refine x_iadd (v := 489) hx hb dX10_setEnvelope_179 (by decide) ?_
  refine x_iald (v := 0) hx hb hE hP 0 rfl 489 (x_in (by decide)) (by decide) ((pk_un (by decide)).trans ((pk_un (by decide)).trans ((pk_un (by decide)).trans ((pk_un (by decide)).trans hf66)))) dX10_setEnvelope_180 ?_
  refine lv_aload_n hx hb dX10_setEnvelope_181 rfl (lv_at hl 6 rfl) ?_
  refine gf_RX10_9 hx hb hown hE hP 3 rfl rfl dX10_setEnvelope_182 ?_
  refine lv_iload hx hb dX10_setEnvelope_185 (lv_at hl 4 rfl) ?_
  refine lv_iload hx hb dX10_setEnvelope_187 (lv_at hl 0 rfl) ?_
  refine x_iadd (v := 479) hx hb dX10_setEnvelope_189 (by decide) ?_
  refine x_iald (v := x2) hx hb hE hP 0 rfl 479 (x_in (by decide)) (by decide) ((pk_un (by decide)).trans ((pk_un (by decide)).trans ((pk_un (by decide)).trans pk_us))) dX10_setEnvelope_190 ?_
  refine lv_icmp_ne (tgt := 198) hx hb dX10_setEnvelope_191 (by decide) (fun h => absurd h (i_nne h57)) (fun _ => ?_)
  refine lv_iconst (v := 1) hx hb dX10_setEnvelope_194 (by decide) ?_
  refine lv_goto (tgt := 199) hx hb dX10_setEnvelope_195 (by decide) ?_
  refine x_iand (v := 1) hx hb dX10_setEnvelope_199 (by decide) ?_
  refine lv_istore (lv' := [(10, .int 1), (11, .int 0), (9, .int 3), (8, .int 1), (7, .int 479), (6, .int 1), (0, .ref q1), (1, .int 1), (2, .int x2), (3, .int x3), (4, .int x4), (5, .int x5)]) hx hb dX10_setEnvelope_200 hl (by decide) rfl (fun ls hl => ?_)
  refine lv_iinc (v := 1) (lv' := [(11, .int 1), (10, .int 1), (9, .int 3), (8, .int 1), (7, .int 479), (6, .int 1), (0, .ref q1), (1, .int 1), (2, .int x2), (3, .int x3), (4, .int x4), (5, .int x5)]) hx hb dX10_setEnvelope_202 hl (k := 1) rfl (by decide) (by decide) rfl (fun ls hl => ?_)
  refine lv_goto (tgt := 157) hx hb dX10_setEnvelope_205 (by decide) ?_
  refine lv_iload hx hb dX10_setEnvelope_157 (lv_at hl 0 rfl) ?_
  refine lv_iconst (v := 4) hx hb dX10_setEnvelope_159 (by decide) ?_
  refine lv_icmp_ge (tgt := 208) hx hb dX10_setEnvelope_160 (by decide) (fun h => absurd h (by decide)) (fun _ => ?_)
  refine lv_iload hx hb dX10_setEnvelope_163 (lv_at hl 1 rfl) ?_
  refine lv_aload_n hx hb dX10_setEnvelope_165 rfl (lv_at hl 6 rfl) ?_
  refine gf_RX10_9 hx hb hown hE hP 3 rfl rfl dX10_setEnvelope_166 ?_
  refine lv_sipush (v := 474) hx hb dX10_setEnvelope_169 (by decide) ?_
  refine lv_iconst (v := 5) hx hb dX10_setEnvelope_172 (by decide) ?_
  refine lv_iload hx hb dX10_setEnvelope_173 (lv_at hl 2 rfl) ?_
  refine x_imul (v := 15) hx hb dX10_setEnvelope_175 (by decide) ?_
  refine x_iadd (v := 489) hx hb dX10_setEnvelope_176 (by decide) ?_
  refine lv_iload hx hb dX10_setEnvelope_177 (lv_at hl 0 rfl) ?_
  refine x_iadd (v := 490) hx hb dX10_setEnvelope_179 (by decide) ?_
  refine x_iald (v := 0) hx hb hE hP 0 rfl 490 (x_in (by decide)) (by decide) ((pk_un (by decide)).trans ((pk_un (by decide)).trans ((pk_un (by decide)).trans ((pk_un (by decide)).trans hf67)))) dX10_setEnvelope_180 ?_
  refine lv_aload_n hx hb dX10_setEnvelope_181 rfl (lv_at hl 6 rfl) ?_
  refine gf_RX10_9 hx hb hown hE hP 3 rfl rfl dX10_setEnvelope_182 ?_
  refine lv_iload hx hb dX10_setEnvelope_185 (lv_at hl 4 rfl) ?_
  refine lv_iload hx hb dX10_setEnvelope_187 (lv_at hl 0 rfl) ?_
  refine x_iadd (v := 480) hx hb dX10_setEnvelope_189 (by decide) ?_
  refine x_iald (v := x3) hx hb hE hP 0 rfl 480 (x_in (by decide)) (by decide) ((pk_un (by decide)).trans ((pk_un (by decide)).trans pk_us)) dX10_setEnvelope_190 ?_
  refine lv_icmp_ne (tgt := 198) hx hb dX10_setEnvelope_191 (by decide) (fun _ => ?_) (fun h => absurd h h59)
  refine lv_iconst (v := 0) hx hb dX10_setEnvelope_198 (by decide) ?_
  refine x_iand (v := 0) hx hb dX10_setEnvelope_199 (by decide) ?_
  refine lv_istore (lv' := [(10, .int 0), (11, .int 1), (9, .int 3), (8, .int 1), (7, .int 479), (6, .int 1), (0, .ref q1), (1, .int 1), (2, .int x2), (3, .int x3), (4, .int x4), (5, .int x5)]) hx hb dX10_setEnvelope_200 hl (by decide) rfl (fun ls hl => ?_)
  refine lv_iinc (v := 2) (lv' := [(11, .int 2), (10, .int 0), (9, .int 3), (8, .int 1), (7, .int 479), (6, .int 1), (0, .ref q1), (1, .int 1), (2, .int x2), (3, .int x3), (4, .int x4), (5, .int x5)]) hx hb dX10_setEnvelope_202 hl (k := 1) rfl (by decide) (by decide) rfl (fun ls hl => ?_)
  refine lv_goto (tgt := 157) hx hb dX10_setEnvelope_205 (by decide) ?_
  refine lv_iload hx hb dX10_setEnvelope_157 (lv_at hl 0 rfl) ?_
  refine lv_iconst (v := 4) hx hb dX10_setEnvelope_159 (by decide) ?_
  refine lv_icmp_ge (tgt := 208) hx hb dX10_setEnvelope_160 (by decide) (fun h => absurd h (by decide)) (fun _ => ?_)
  refine lv_iload hx hb dX10_setEnvelope_163 (lv_at hl 1 rfl) ?_
  refine lv_aload_n hx hb dX10_setEnvelope_165 rfl (lv_at hl 6 rfl) ?_
  refine gf_RX10_9 hx hb hown hE hP 3 rfl rfl dX10_setEnvelope_166 ?_
  refine lv_sipush (v := 474) hx hb dX10_setEnvelope_169 (by decide) ?_
  refine lv_iconst (v := 5) hx hb dX10_setEnvelope_172 (by decide) ?_
  refine lv_iload hx hb dX10_setEnvelope_173 (lv_at hl 2 rfl) ?_
  refine x_imul (v := 15) hx hb dX10_setEnvelope_175 (by decide) ?_
  refine x_iadd (v := 489) hx hb dX10_setEnvelope_176 (by decide) ?_
  refine lv_iload hx hb dX10_setEnvelope_177 (lv_at hl 0 rfl) ?_
  refine x_iadd (v := 491) hx hb dX10_setEnvelope_179 (by decide) ?_
  refine x_iald (v := 100) hx hb hE hP 0 rfl 491 (x_in (by decide)) (by decide) ((pk_un (by decide)).trans ((pk_un (by decide)).trans ((pk_un (by decide)).trans ((pk_un (by decide)).trans hf68)))) dX10_setEnvelope_180 ?_
  refine lv_aload_n hx hb dX10_setEnvelope_181 rfl (lv_at hl 6 rfl) ?_
  refine gf_RX10_9 hx hb hown hE hP 3 rfl rfl dX10_setEnvelope_182 ?_
  refine lv_iload hx hb dX10_setEnvelope_185 (lv_at hl 4 rfl) ?_
  refine lv_iload hx hb dX10_setEnvelope_187 (lv_at hl 0 rfl) ?_
  refine x_iadd (v := 481) hx hb dX10_setEnvelope_189 (by decide) ?_
  refine x_iald (v := x4) hx hb hE hP 0 rfl 481 (x_in (by decide)) (by decide) ((pk_un (by decide)).trans pk_us) dX10_setEnvelope_190 ?_
  refine x_and0 hx hb dX10_setEnvelope_191 dX10_setEnvelope_194 dX10_setEnvelope_195 dX10_setEnvelope_198 dX10_setEnvelope_199 ?_
  refine lv_istore (lv' := [(10, .int 0), (11, .int 2), (9, .int 3), (8, .int 1), (7, .int 479), (6, .int 1), (0, .ref q1), (1, .int 1), (2, .int x2), (3, .int x3), (4, .int x4), (5, .int x5)]) hx hb dX10_setEnvelope_200 hl (by decide) rfl (fun ls hl => ?_)
  refine lv_iinc (v := 3) (lv' := [(11, .int 3), (10, .int 0), (9, .int 3), (8, .int 1), (7, .int 479), (6, .int 1), (0, .ref q1), (1, .int 1), (2, .int x2), (3, .int x3), (4, .int x4), (5, .int x5)]) hx hb dX10_setEnvelope_202 hl (k := 1) rfl (by decide) (by decide) rfl (fun ls hl => ?_)
  refine lv_goto (tgt := 157) hx hb dX10_setEnvelope_205 (by decide) ?_
  refine lv_iload hx hb dX10_setEnvelope_157 (lv_at hl 0 rfl) ?_
  refine lv_iconst (v := 4) hx hb dX10_setEnvelope_159 (by decide) ?_
  refine lv_icmp_ge (tgt := 208) hx hb dX10_setEnvelope_160 (by decide) (fun h => absurd h (by decide)) (fun _ => ?_)
  refine lv_iload hx hb dX10_setEnvelope_163 (lv_at hl 1 rfl) ?_
  refine lv_aload_n hx hb dX10_setEnvelope_165 rfl (lv_at hl 6 rfl) ?_
  refine gf_RX10_9 hx hb hown hE hP 3 rfl rfl dX10_setEnvelope_166 ?_
  refine lv_sipush (v := 474) hx hb dX10_setEnvelope_169 (by decide) ?_
  refine lv_iconst (v := 5) hx hb dX10_setEnvelope_172 (by decide) ?_
  refine lv_iload hx hb dX10_setEnvelope_173 (lv_at hl 2 rfl) ?_
  refine x_imul (v := 15) hx hb dX10_setEnvelope_175 (by decide) ?_
  refine x_iadd (v := 489) hx hb dX10_setEnvelope_176 (by decide) ?_
  refine lv_iload hx hb dX10_setEnvelope_177 (lv_at hl 0 rfl) ?_
  refine x_iadd (v := 492) hx hb dX10_setEnvelope_179 (by decide) ?_
  refine x_iald (v := 0) hx hb hE hP 0 rfl 492 (x_in (by decide)) (by decide) ((pk_un (by decide)).trans ((pk_un (by decide)).trans ((pk_un (by decide)).trans ((pk_un (by decide)).trans hf69)))) dX10_setEnvelope_180 ?_
  refine lv_aload_n hx hb dX10_setEnvelope_181 rfl (lv_at hl 6 rfl) ?_
  refine gf_RX10_9 hx hb hown hE hP 3 rfl rfl dX10_setEnvelope_182 ?_
  refine lv_iload hx hb dX10_setEnvelope_185 (lv_at hl 4 rfl) ?_
  refine lv_iload hx hb dX10_setEnvelope_187 (lv_at hl 0 rfl) ?_
  refine x_iadd (v := 482) hx hb dX10_setEnvelope_189 (by decide) ?_
  refine x_iald (v := x5) hx hb hE hP 0 rfl 482 (x_in (by decide)) (by decide) pk_us dX10_setEnvelope_190 ?_
  refine x_and0 hx hb dX10_setEnvelope_191 dX10_setEnvelope_194 dX10_setEnvelope_195 dX10_setEnvelope_198 dX10_setEnvelope_199 ?_
  refine lv_istore (lv' := [(10, .int 0), (11, .int 3), (9, .int 3), (8, .int 1), (7, .int 479), (6, .int 1), (0, .ref q1), (1, .int 1), (2, .int x2), (3, .int x3), (4, .int x4), (5, .int x5)]) hx hb dX10_setEnvelope_200 hl (by decide) rfl (fun ls hl => ?_)
  refine lv_iinc (v := 4) (lv' := [(11, .int 4), (10, .int 0), (9, .int 3), (8, .int 1), (7, .int 479), (6, .int 1), (0, .ref q1), (1, .int 1), (2, .int x2), (3, .int x3), (4, .int x4), (5, .int x5)]) hx hb dX10_setEnvelope_202 hl (k := 1) rfl (by decide) (by decide) rfl (fun ls hl => ?_)
  refine lv_goto (tgt := 157) hx hb dX10_setEnvelope_205 (by decide) ?_
  refine lv_iload hx hb dX10_setEnvelope_157 (lv_at hl 0 rfl) ?_
  refine lv_iconst (v := 4) hx hb dX10_setEnvelope_159 (by decide) ?_
  refine lv_icmp_ge (tgt := 208) hx hb dX10_setEnvelope_160 (by decide) (fun _ => ?_) (fun h => absurd (by decide) h)
  refine lv_iload hx hb dX10_setEnvelope_208 (lv_at hl 3 rfl) ?_
  refine lv_iload hx hb dX10_setEnvelope_210 (lv_at hl 1 rfl) ?_
  refine lv_if_eq (tgt := 219) hx hb dX10_setEnvelope_212 (by decide) (fun _ => ?_) (fun h => absurd (by decide) h)
  refine lv_iconst (v := 0) hx hb dX10_setEnvelope_219 (by decide) ?_
  refine x_iadd (v := 1) hx hb dX10_setEnvelope_220 (by decide) ?_
  refine lv_istore (lv' := [(8, .int 1), (11, .int 4), (10, .int 0), (9, .int 3), (7, .int 479), (6, .int 1), (0, .ref q1), (1, .int 1), (2, .int x2), (3, .int x3), (4, .int x4), (5, .int x5)]) hx hb dX10_setEnvelope_221 hl (by decide) rfl (fun ls hl => ?_)
  refine lv_iinc (v := 4) (lv' := [(9, .int 4), (8, .int 1), (11, .int 4), (10, .int 0), (7, .int 479), (6, .int 1), (0, .ref q1), (1, .int 1), (2, .int x2), (3, .int x3), (4, .int x4), (5, .int x5)]) hx hb dX10_setEnvelope_223 hl (k := 3) rfl (by decide) (by decide) rfl (fun ls hl => ?_)
  refine lv_goto (tgt := 145) hx hb dX10_setEnvelope_226 (by decide) ?_
  refine lv_iload hx hb dX10_setEnvelope_145 (lv_at hl 0 rfl) ?_
  refine lv_iconst (v := 4) hx hb dX10_setEnvelope_147 (by decide) ?_
  refine lv_icmp_ge (tgt := 229) hx hb dX10_setEnvelope_148 (by decide) (fun _ => ?_) (fun h => absurd (by decide) h)
  refine lv_iload hx hb dX10_setEnvelope_229 (lv_at hl 1 rfl) ?_
  exact x_zret hx hb hr rfl rfl hlocks hP hD hS hAe hsz (Nat.le_of_ble_eq_true rfl) (Nat.le_of_ble_eq_true rfl) (fun _ => 0) [3] (by decide) rfl dX10_setEnvelope_231
