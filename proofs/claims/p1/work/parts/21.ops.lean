set_option maxHeartbeats 4000000 in
set_option maxRecDepth 100000 in
theorem c219_X10_adds (l : Launch) (g : gG) (q1 q42 q46 q49 : Nat) (x2 x3 x4 : Int32) (w6 w7 w8 w9 w10 w11 w14 w15 w16 w17 w18 w19 w20 w21 w22 w23 w24 w25 w26 w27 w28 w29 w30 w31 w32 w33 w34 w35 w36 w37 w38 w39 w40 w41 : Value) (f43 : Nat → Int32) (f48 : Nat → Int32) (hf44 : f43 0 = 0) (hf45 : f43 1 = 0) (hf50 : f43 49 = 0) (hf51 : f48 1 = 0) (hf52 : f43 98 = 0) (hf53 : f48 2 = 0) (hf54 : f43 147 = 0) (hf55 : f48 3 = 0) (hf56 : f43 196 = 0) (hf57 : f48 4 = 0) (hf58 : f43 245 = 0) (hf59 : f48 5 = 0) (hf60 : f43 294 = 0) (hf61 : f48 6 = 0) (hf62 : f43 343 = 0) (hf63 : f48 7 = 0) (hf65 : f43 392 = 0) (h47 : x3 ≤ 200000) (h64 : x3 ≤ 20000) (sz : Nat) : Met l yX10_adds [Cond.code yX10_adds cX10_adds 8 (some .boolean)] ({ frames := 4, cells := 0, slots := 0, locals := 91 } : Room) (va_Pc [.ref q1, .int 0, .int 0, .int x2, .int x3, .int x4] (PX g sz [(q49, .inl (g.2 0, 8, .inl f48)), (q46, .inl (g.2 0, 8, .inl f48)), (q42, .inl (g.2 0, 497, .inl f43)), (q1, .inr (12, [.ref q42, w6, w7, w8, w9, w10, w11, .ref q46, .ref q49, w14, w15, w16, w17, w18, w19, w20, w21, w22, w23, w24, w25, w26, w27, w28, w29, w30, w31, w32, w33, w34, w35, w36, w37, w38, w39, w40, w41]))])) (QI g [(q49, .inl (g.2 0, 8, .inl f48)), (q46, .inl (g.2 0, 8, .inl f48)), (q42, .inl (g.2 0, 497, .inl f43)), (q1, .inr (12, [.ref q42, w6, w7, w8, w9, w10, w11, .ref q46, .ref q49, w14, w15, w16, w17, w18, w19, w20, w21, w22, w23, w24, w25, w26, w27, w28, w29, w30, w31, w32, w33, w34, w35, w36, w37, w38, w39, w40, w41]))] sz 1 (fun _ => [(q49, .inl (g.2 0, 8, .inl (upd f48 0 1))), (q46, .inl (g.2 0, 8, .inl (upd f48 0 x3))), (q42, .inl (g.2 0, 497, .inl (upd (upd (upd (upd f43 2 x2) 3 x3) 4 x4) 0 1))), (q1, .inr (12, [.ref q42, w6, w7, w8, w9, w10, w11, .ref q46, .ref q49, w14, w15, w16, w17, w18, w19, w20, w21, w22, w23, w24, w25, w26, w27, w28, w29, w30, w31, w32, w33, w34, w35, w36, w37, w38, w39, w40, w41]))])) 0 0 (va_A [(q49, .inl (g.2 0, 8, .inl f48)), (q46, .inl (g.2 0, 8, .inl f48)), (q42, .inl (g.2 0, 497, .inl f43)), (q1, .inr (12, [.ref q42, w6, w7, w8, w9, w10, w11, .ref q46, .ref q49, w14, w15, w16, w17, w18, w19, w20, w21, w22, w23, w24, w25, w26, w27, w28, w29, w30, w31, w32, w33, w34, w35, w36, w37, w38, w39, w40, w41]))] sz) := by
  refine ofN (by decide) (Nat.le_of_ble_eq_true rfl) rfl ?_
  intro p e s m args below meth c A ls hAe hsz hx hb hml hr hlocks hin hown hE hP hD hA hS hl
  have hown : s.vm.findClass RX10 = some m.cls := hown
  refine lv_iload_n hx hb dX10_adds_0 rfl (lv_at hl 1 rfl) ?_
  refine g0_i (rS (rest := []) hx hb hml hown hE hP hD (c199_X10_itemsAt l g s.heap.size) (kS_X10_itemsAt hE (e1445 hE) rfl rfl ⟨(Nat.le_of_ble_eq_true rfl), (Nat.le_of_ble_eq_true rfl)⟩) [] rfl (by decide) rfl hl.1 rfl (lv_room (Nat.le_of_ble_eq_true rfl)) dX10_adds_1 ⟨(Nat.le_of_ble_eq_true rfl), (Nat.le_of_ble_eq_true rfl)⟩) hP hD hS hA (fun u9 H locs hP hS => ?_)
  refine lv_istore (lv' := [(6, .int 0), (0, .ref q1), (1, .int 0), (2, .int 0), (3, .int x2), (4, .int x3), (5, .int x4)]) hx hb dX10_adds_4 hl (by decide) rfl (fun ls hl => ?_)
  refine lv_aload_n hx hb dX10_adds_6 rfl (lv_at hl 1 rfl) ?_
  refine gf_RX10_9 hx hb hown hE hP 3 rfl rfl dX10_adds_7 ?_
  refine lv_iload hx hb dX10_adds_10 (lv_at hl 0 rfl) ?_
  refine x_iald (v := 0) hx hb hE hP 2 rfl 0 (x_in (by decide)) (by decide) hf44 dX10_adds_12 ?_
  refine lv_bipush (v := 12) hx hb dX10_adds_13 (by decide) ?_
  refine lv_icmp_ne (tgt := 20) hx hb dX10_adds_15 (by decide) (fun _ => ?_) (fun h => absurd h (by decide))
  refine lv_iload hx hb dX10_adds_20 (lv_at hl 0 rfl) ?_
  refine lv_iconst (v := 1) hx hb dX10_adds_22 (by decide) ?_
  refine x_iadd (v := 1) hx hb dX10_adds_23 (by decide) ?_
  refine lv_iconst (v := 4) hx hb dX10_adds_24 (by decide) ?_
  refine lv_aload_n hx hb dX10_adds_25 rfl (lv_at hl 1 rfl) ?_
  refine gf_RX10_9 hx hb hown hE hP 3 rfl rfl dX10_adds_26 ?_
  refine lv_iload hx hb dX10_adds_29 (lv_at hl 0 rfl) ?_
  refine x_iald (v := 0) hx hb hE hP 2 rfl 0 (x_in (by decide)) (by decide) hf44 dX10_adds_31 ?_
  refine x_imul (v := 0) hx hb dX10_adds_32 (by decide) ?_
  refine x_iadd (v := 1) hx hb dX10_adds_33 (by decide) ?_
  refine lv_istore (lv' := [(7, .int 1), (6, .int 0), (0, .ref q1), (1, .int 0), (2, .int 0), (3, .int x2), (4, .int x3), (5, .int x4)]) hx hb dX10_adds_34 hl (by decide) rfl (fun ls hl => ?_)
  refine lv_aload_n hx hb dX10_adds_36 rfl (lv_at hl 2 rfl) ?_
  refine gf_RX10_9 hx hb hown hE hP 3 rfl rfl dX10_adds_37 ?_
  refine lv_iload hx hb dX10_adds_40 (lv_at hl 0 rfl) ?_
  refine lv_iload_n hx hb dX10_adds_42 rfl (lv_at hl 4 rfl) ?_
  refine x_iast_same hx hb hE hP hD hS 2 rfl 1 (x_in (by decide)) (by decide) hf45 dX10_adds_43 (fun H locs hP hD hS => ?_)
  refine lv_aload_n hx hb dX10_adds_44 rfl (lv_at hl 2 rfl) ?_
  refine gf_RX10_9 hx hb hown hE hP 3 rfl rfl dX10_adds_45 ?_
  refine lv_iload hx hb dX10_adds_48 (lv_at hl 0 rfl) ?_
  refine lv_iconst (v := 1) hx hb dX10_adds_50 (by decide) ?_
  refine x_iadd (v := 2) hx hb dX10_adds_51 (by decide) ?_
  refine lv_iload_n hx hb dX10_adds_52 rfl (lv_at hl 5 rfl) ?_
  refine x_iast (ws' := [(q49, .inl (g.2 0, 8, .inl f48)), (q46, .inl (g.2 0, 8, .inl f48)), (q42, .inl (g.2 0, 497, .inl (upd f43 2 x2))), (q1, .inr (12, [.ref q42, w6, w7, w8, w9, w10, w11, .ref q46, .ref q49, w14, w15, w16, w17, w18, w19, w20, w21, w22, w23, w24, w25, w26, w27, w28, w29, w30, w31, w32, w33, w34, w35, w36, w37, w38, w39, w40, w41]))]) hx hb hE hP hD hS 2 rfl 2 (x_in (by decide)) (by decide) dX10_adds_53 rfl (fun H locs hP hD hS => ?_)
  refine lv_aload_n hx hb dX10_adds_54 rfl (lv_at hl 2 rfl) ?_
  refine gf_RX10_9 hx hb hown hE hP 3 rfl rfl dX10_adds_55 ?_
  refine lv_iload hx hb dX10_adds_58 (lv_at hl 0 rfl) ?_
  refine lv_iconst (v := 2) hx hb dX10_adds_60 (by decide) ?_
  refine x_iadd (v := 3) hx hb dX10_adds_61 (by decide) ?_
  refine lv_iload hx hb dX10_adds_62 (lv_at hl 6 rfl) ?_
  refine x_iast (ws' := [(q49, .inl (g.2 0, 8, .inl f48)), (q46, .inl (g.2 0, 8, .inl f48)), (q42, .inl (g.2 0, 497, .inl (upd (upd f43 2 x2) 3 x3))), (q1, .inr (12, [.ref q42, w6, w7, w8, w9, w10, w11, .ref q46, .ref q49, w14, w15, w16, w17, w18, w19, w20, w21, w22, w23, w24, w25, w26, w27, w28, w29, w30, w31, w32, w33, w34, w35, w36, w37, w38, w39, w40, w41]))]) hx hb hE hP hD hS 2 rfl 3 (x_in (by decide)) (by decide) dX10_adds_64 rfl (fun H locs hP hD hS => ?_)
  refine lv_aload_n hx hb dX10_adds_65 rfl (lv_at hl 2 rfl) ?_
  refine gf_RX10_9 hx hb hown hE hP 3 rfl rfl dX10_adds_66 ?_
  refine lv_iload hx hb dX10_adds_69 (lv_at hl 0 rfl) ?_
  refine lv_iconst (v := 3) hx hb dX10_adds_71 (by decide) ?_
  refine x_iadd (v := 4) hx hb dX10_adds_72 (by decide) ?_
  refine lv_iload hx hb dX10_adds_73 (lv_at hl 7 rfl) ?_
  refine x_iast (ws' := [(q49, .inl (g.2 0, 8, .inl f48)), (q46, .inl (g.2 0, 8, .inl f48)), (q42, .inl (g.2 0, 497, .inl (upd (upd (upd f43 2 x2) 3 x3) 4 x4))), (q1, .inr (12, [.ref q42, w6, w7, w8, w9, w10, w11, .ref q46, .ref q49, w14, w15, w16, w17, w18, w19, w20, w21, w22, w23, w24, w25, w26, w27, w28, w29, w30, w31, w32, w33, w34, w35, w36, w37, w38, w39, w40, w41]))]) hx hb hE hP hD hS 2 rfl 4 (x_in (by decide)) (by decide) dX10_adds_75 rfl (fun H locs hP hD hS => ?_)
  refine lv_aload_n hx hb dX10_adds_76 rfl (lv_at hl 2 rfl) ?_
  refine gf_RX10_9 hx hb hown hE hP 3 rfl rfl dX10_adds_77 ?_
  refine lv_iload hx hb dX10_adds_80 (lv_at hl 1 rfl) ?_
  refine lv_dup2_11 hx hb dX10_adds_82 rfl rfl ?_
  refine x_iald (v := 0) hx hb hE hP 2 rfl 0 (x_in (by decide)) (by decide) ((pk_un (by decide)).trans ((pk_un (by decide)).trans ((pk_un (by decide)).trans hf44))) dX10_adds_83 ?_
  refine lv_iconst (v := 1) hx hb dX10_adds_84 (by decide) ?_
  refine x_iadd (v := 1) hx hb dX10_adds_85 (by decide) ?_
  refine x_iast (ws' := [(q49, .inl (g.2 0, 8, .inl f48)), (q46, .inl (g.2 0, 8, .inl f48)), (q42, .inl (g.2 0, 497, .inl (upd (upd (upd (upd f43 2 x2) 3 x3) 4 x4) 0 1))), (q1, .inr (12, [.ref q42, w6, w7, w8, w9, w10, w11, .ref q46, .ref q49, w14, w15, w16, w17, w18, w19, w20, w21, w22, w23, w24, w25, w26, w27, w28, w29, w30, w31, w32, w33, w34, w35, w36, w37, w38, w39, w40, w41]))]) hx hb hE hP hD hS 2 rfl 0 (x_in (by decide)) (by decide) dX10_adds_86 rfl (fun H locs hP hD hS => ?_)
  refine lv_aload_n hx hb dX10_adds_87 rfl (lv_at hl 2 rfl) ?_
  refine g_i (wr := []) (rV (rest := []) hx hb hml hown hE hP hD 3 rfl rfl (c218_X10_isTooGreat l g q1 q42 q46 q49 x3 w6 w7 w8 w9 w10 w11 w14 w15 w16 w17 w18 w19 w20 w21 w22 w23 w24 w25 w26 w27 w28 w29 w30 w31 w32 w33 w34 w35 w36 w37 w38 w39 w40 w41 (upd (upd (upd (upd f43 2 x2) 3 x3) 4 x4) 0 1) f48 (pk_us) (((pk_un (by decide)).trans ((pk_un (by decide)).trans ((pk_un (by decide)).trans ((pk_un (by decide)).trans hf45))))) (((pk_un (by decide)).trans ((pk_un (by decide)).trans pk_us))) (((pk_un (by decide)).trans ((pk_un (by decide)).trans ((pk_un (by decide)).trans ((pk_un (by decide)).trans hf50))))) (hf51) (((pk_un (by decide)).trans ((pk_un (by decide)).trans ((pk_un (by decide)).trans ((pk_un (by decide)).trans hf52))))) (hf53) (((pk_un (by decide)).trans ((pk_un (by decide)).trans ((pk_un (by decide)).trans ((pk_un (by decide)).trans hf54))))) (hf55) (((pk_un (by decide)).trans ((pk_un (by decide)).trans ((pk_un (by decide)).trans ((pk_un (by decide)).trans hf56))))) (hf57) (((pk_un (by decide)).trans ((pk_un (by decide)).trans ((pk_un (by decide)).trans ((pk_un (by decide)).trans hf58))))) (hf59) (((pk_un (by decide)).trans ((pk_un (by decide)).trans ((pk_un (by decide)).trans ((pk_un (by decide)).trans hf60))))) (hf61) (((pk_un (by decide)).trans ((pk_un (by decide)).trans ((pk_un (by decide)).trans ((pk_un (by decide)).trans hf62))))) (hf63) (((pk_un (by decide)).trans ((pk_un (by decide)).trans ((pk_un (by decide)).trans ((pk_un (by decide)).trans hf65))))) h47 h64 H.size) (kV_X10_isTooGreat hE (e1448 hE) rfl rfl ⟨(Nat.le_of_ble_eq_true rfl), (Nat.le_of_ble_eq_true rfl)⟩) [0, 1, 2, 3] rfl (by decide) rfl hl.1 rfl (lv_room (Nat.le_of_ble_eq_true rfl)) dX10_adds_88 ⟨(Nat.le_of_ble_eq_true rfl), (Nat.le_of_ble_eq_true rfl)⟩) hP hD hS hA [0, 1, 2, 3] [] rfl rfl (by decide) (by decide) (fun u2 H locs hP hD hS => ?_)
  have hP : va_P g.1 vwCl [(q49, .inl (g.2 0, 8, .inl (upd f48 0 1))), (q46, .inl (g.2 0, 8, .inl (upd f48 0 x3))), (q42, .inl (g.2 0, 497, .inl (upd (upd (upd (upd f43 2 x2) 3 x3) 4 x4) 0 1))), (q1, .inr (12, [.ref q42, w6, w7, w8, w9, w10, w11, .ref q46, .ref q49, w14, w15, w16, w17, w18, w19, w20, w21, w22, w23, w24, w25, w26, w27, w28, w29, w30, w31, w32, w33, w34, w35, w36, w37, w38, w39, w40, w41]))] H := hP
  have hD : va_D A [(q49, .inl (g.2 0, 8, .inl (upd f48 0 1))), (q46, .inl (g.2 0, 8, .inl (upd f48 0 x3))), (q42, .inl (g.2 0, 497, .inl (upd (upd (upd (upd f43 2 x2) 3 x3) 4 x4) 0 1))), (q1, .inr (12, [.ref q42, w6, w7, w8, w9, w10, w11, .ref q46, .ref q49, w14, w15, w16, w17, w18, w19, w20, w21, w22, w23, w24, w25, w26, w27, w28, w29, w30, w31, w32, w33, w34, w35, w36, w37, w38, w39, w40, w41]))] := hD
  refine lv_if_ne (tgt := 98) hx hb dX10_adds_91 (by decide) (fun h => absurd h (by decide)) (fun _ => ?_)
  refine lv_iconst (v := 1) hx hb dX10_adds_94 (by decide) ?_
  refine lv_goto (tgt := 99) hx hb dX10_adds_95 (by decide) ?_
  exact x_zret hx hb hr rfl rfl hlocks hP hD hS hAe hsz (Nat.le_of_ble_eq_true rfl) (Nat.le_of_ble_eq_true rfl) (fun _ => 0) [0, 1, 2, 3] (by decide) rfl dX10_adds_99

set_option maxHeartbeats 4000000 in
set_option maxRecDepth 100000 in
theorem c220_X10_keep (l : Launch) (g : gG) (q1 q39 q40 : Nat) (w2 w3 w5 w8 w9 w10 w11 w12 w13 w14 w15 w16 w17 w18 w19 w20 w21 w22 w23 w24 w25 w26 w27 w28 w29 w30 w31 w32 w33 w34 w35 w36 w37 w38 : Value) (f41 : Nat → Int32) (f42 : Nat → Int32) (sz : Nat) : Met l yX10_keep [Cond.code yX10_keep cX10_keep 2 none] ({ frames := 0, cells := 0, slots := 0, locals := 0 } : Room) (va_Pc [.ref q1] (PX g sz [(q39, .inl (g.2 0, 3976, .inl f42)), (q40, .inl (g.2 0, 497, .inl f41)), (q1, .inr (12, [w2, w3, .ref q40, w5, .ref q39, .int 0, w8, w9, w10, w11, w12, w13, w14, w15, w16, w17, w18, w19, w20, w21, w22, w23, w24, w25, w26, w27, w28, w29, w30, w31, w32, w33, w34, w35, w36, w37, w38]))])) (QV g [(q39, .inl (g.2 0, 3976, .inl f42)), (q40, .inl (g.2 0, 497, .inl f41)), (q1, .inr (12, [w2, w3, .ref q40, w5, .ref q39, .int 0, w8, w9, w10, w11, w12, w13, w14, w15, w16, w17, w18, w19, w20, w21, w22, w23, w24, w25, w26, w27, w28, w29, w30, w31, w32, w33, w34, w35, w36, w37, w38]))] sz (fun _ => [(q39, .inl (g.2 0, 3976, .inl (cpF 497 f41 f42))), (q40, .inl (g.2 0, 497, .inl f41)), (q1, .inr (12, [w2, w3, .ref q40, w5, .ref q39, .int 1, w8, w9, w10, w11, w12, w13, w14, w15, w16, w17, w18, w19, w20, w21, w22, w23, w24, w25, w26, w27, w28, w29, w30, w31, w32, w33, w34, w35, w36, w37, w38]))])) 0 0 (va_A [(q39, .inl (g.2 0, 3976, .inl f42)), (q40, .inl (g.2 0, 497, .inl f41)), (q1, .inr (12, [w2, w3, .ref q40, w5, .ref q39, .int 0, w8, w9, w10, w11, w12, w13, w14, w15, w16, w17, w18, w19, w20, w21, w22, w23, w24, w25, w26, w27, w28, w29, w30, w31, w32, w33, w34, w35, w36, w37, w38]))] sz) := by
  refine ofN (by decide) (Nat.le_of_ble_eq_true rfl) rfl ?_
  intro p e s m args below meth c A ls hAe hsz hx hb hml hr hlocks hin hown hE hP hD hA hS hl
  have hown : s.vm.findClass RX10 = some m.cls := hown
  refine lv_aload_n hx hb dX10_keep_0 rfl (lv_at hl 0 rfl) ?_
  refine gf_RX10_89 hx hb hown hE hP 2 rfl rfl dX10_keep_1 ?_
  refine lv_bipush (v := 8) hx hb dX10_keep_4 (by decide) ?_
  refine lv_icmp_ne (tgt := 50) hx hb dX10_keep_6 (by decide) (fun _ => ?_) (fun h => absurd h (by decide))
  refine lv_iconst (v := 0) hx hb dX10_keep_50 (by decide) ?_
  refine lv_istore_n (lv' := [(1, .int 0), (0, .ref q1)]) hx hb dX10_keep_51 rfl hl (by decide) rfl (fun ls hl => ?_)
  refine x_loop (N := 497) (fun i H locs ls => va_P g.1 vwCl [(q39, .inl (g.2 0, 3976, .inl (cpF i f41 f42))), (q40, .inl (g.2 0, 497, .inl f41)), (q1, .inr (12, [w2, w3, .ref q40, w5, .ref q39, .int 0, w8, w9, w10, w11, w12, w13, w14, w15, w16, w17, w18, w19, w20, w21, w22, w23, w24, w25, w26, w27, w28, w29, w30, w31, w32, w33, w34, w35, w36, w37, w38]))] H ∧ va_D A [(q39, .inl (g.2 0, 3976, .inl (cpF i f41 f42))), (q40, .inl (g.2 0, 497, .inl f41)), (q1, .inr (12, [w2, w3, .ref q40, w5, .ref q39, .int 0, w8, w9, w10, w11, w12, w13, w14, w15, w16, w17, w18, w19, w20, w21, w22, w23, w24, w25, w26, w27, w28, w29, w30, w31, w32, w33, w34, w35, w36, w37, w38]))] ∧ va_S A s.heap H locs ∧ lv_has ls 2 [(1, .int (nI i)), (0, .ref q1)]) ⟨by rw [cpF_0]; exact hP, by rw [cpF_0]; exact hD, hS, by rw [nI_0]; exact hl⟩ (by
    intro i hi ih H locs ls hI
    obtain ⟨hP, hD, hS, hl⟩ := hI
    have hlp : nI i < 497 := nI_lt hi (by decide)
    refine lv_iload_n hx hb dX10_keep_52 rfl (lv_at hl 0 rfl) ?_
    refine lv_sipush (v := 497) hx hb dX10_keep_53 (by decide) ?_
    refine lv_icmp_ge (tgt := 86) hx hb dX10_keep_56 (by decide) (fun h => absurd h (i_nle hlp)) (fun _ => ?_)
    refine lv_aload_n hx hb dX10_keep_59 rfl (lv_at hl 1 rfl) ?_
    refine gf_RX10_19 hx hb hown hE hP 2 rfl rfl dX10_keep_60 ?_
    refine lv_sipush (v := 497) hx hb dX10_keep_63 (by decide) ?_
    refine lv_aload_n hx hb dX10_keep_66 rfl (lv_at hl 1 rfl) ?_
    refine gf_RX10_89 hx hb hown hE hP 2 rfl rfl dX10_keep_67 ?_
    refine x_imul (v := 0) hx hb dX10_keep_70 (by decide) ?_
    refine lv_iload_n hx hb dX10_keep_71 rfl (lv_at hl 0 rfl) ?_
    refine x_iadd (v := (nI i)) hx hb dX10_keep_72 (Int32.zero_add _) ?_
    refine lv_aload_n hx hb dX10_keep_73 rfl (lv_at hl 1 rfl) ?_
    refine gf_RX10_16 hx hb hown hE hP 2 rfl rfl dX10_keep_74 ?_
    refine lv_iload_n hx hb dX10_keep_77 rfl (lv_at hl 0 rfl) ?_
    refine x_iald (v := (f41 i)) hx hb hE hP 1 rfl i (vp_in_nI (by omega) (by decide)) (nI_clamp (by omega)) rfl dX10_keep_78 ?_
    refine x_iast (ws' := [(q39, .inl (g.2 0, 3976, .inl (cpF (i + 1) f41 f42))), (q40, .inl (g.2 0, 497, .inl f41)), (q1, .inr (12, [w2, w3, .ref q40, w5, .ref q39, .int 0, w8, w9, w10, w11, w12, w13, w14, w15, w16, w17, w18, w19, w20, w21, w22, w23, w24, w25, w26, w27, w28, w29, w30, w31, w32, w33, w34, w35, w36, w37, w38]))]) hx hb hE hP hD hS 0 rfl i (vp_in_nI (by omega) (by decide)) (nI_clamp (by omega)) dX10_keep_79 (by rw [← cpF_s]; rfl) (fun H locs hP hD hS => ?_)
    refine lv_iinc (v := (nI (i + 1))) (lv' := [(1, .int (nI (i + 1))), (0, .ref q1)]) hx hb dX10_keep_80 hl (k := 0) rfl (by rw [← nI_1]; rfl) (by decide) rfl (fun ls hl => ?_)
    refine lv_goto (tgt := 52) hx hb dX10_keep_83 (by decide) ?_
    exact ih _ _ _ ⟨hP, hD, hS, lv_sub hl [0, 1] rfl⟩) (fun H locs ls hI => ?_)
  obtain ⟨hP, hD, hS, hl⟩ := hI
  have hP : va_P g.1 vwCl [(q39, .inl (g.2 0, 3976, .inl (cpF 497 f41 f42))), (q40, .inl (g.2 0, 497, .inl f41)), (q1, .inr (12, [w2, w3, .ref q40, w5, .ref q39, .int 0, w8, w9, w10, w11, w12, w13, w14, w15, w16, w17, w18, w19, w20, w21, w22, w23, w24, w25, w26, w27, w28, w29, w30, w31, w32, w33, w34, w35, w36, w37, w38]))] H := hP
  have hD : va_D A [(q39, .inl (g.2 0, 3976, .inl (cpF 497 f41 f42))), (q40, .inl (g.2 0, 497, .inl f41)), (q1, .inr (12, [w2, w3, .ref q40, w5, .ref q39, .int 0, w8, w9, w10, w11, w12, w13, w14, w15, w16, w17, w18, w19, w20, w21, w22, w23, w24, w25, w26, w27, w28, w29, w30, w31, w32, w33, w34, w35, w36, w37, w38]))] := hD
  have hl : lv_has ls 2 [(1, .int 497), (0, .ref q1)] := hl
  refine lv_iload_n hx hb dX10_keep_52 rfl (lv_at hl 0 rfl) ?_
  refine lv_sipush (v := 497) hx hb dX10_keep_53 (by decide) ?_
  refine lv_icmp_ge (tgt := 86) hx hb dX10_keep_56 (by decide) (fun _ => ?_) (fun h => absurd (by decide) h)
  refine lv_aload_n hx hb dX10_keep_86 rfl (lv_at hl 1 rfl) ?_
  refine lv_dup hx hb dX10_keep_87 rfl ?_
  refine gf_RX10_89 hx hb hown hE hP 2 rfl rfl dX10_keep_88 ?_
  refine lv_iconst (v := 1) hx hb dX10_keep_91 (by decide) ?_
  refine x_iadd (v := 1) hx hb dX10_keep_92 (by decide) ?_
  refine pf_RX10_89 (ws' := [(q39, .inl (g.2 0, 3976, .inl (cpF 497 f41 f42))), (q40, .inl (g.2 0, 497, .inl f41)), (q1, .inr (12, [w2, w3, .ref q40, w5, .ref q39, .int 1, w8, w9, w10, w11, w12, w13, w14, w15, w16, w17, w18, w19, w20, w21, w22, w23, w24, w25, w26, w27, w28, w29, w30, w31, w32, w33, w34, w35, w36, w37, w38]))]) hx hb hown hE hP hD hS 2 rfl rfl rfl (Nat.le_of_ble_eq_true rfl) dX10_keep_93 rfl (fun H locs hP hD hS => ?_)
  exact x_vret hx hb hr hlocks hP hD hS hAe hsz (Nat.le_of_ble_eq_true rfl) (Nat.le_of_ble_eq_true rfl) (fun _ => 0) [0, 1, 2] (by decide) rfl dX10_keep_96

set_option maxHeartbeats 4000000 in
set_option maxRecDepth 100000 in
theorem c221_X10_added (l : Launch) (g : gG) (q1 q48 q49 q54 q55 q71 : Nat) (x2 x3 x4 : Int32) (w12 w14 w17 w20 w21 w22 w23 w24 w25 w26 w27 w28 w29 w30 w31 w32 w33 w34 w35 w36 w37 w38 w39 w40 w41 w42 w43 w44 w45 w46 w47 : Value) (f50 : Nat → Int32) (f51 : Nat → Int32) (hf52 : f50 0 = 0) (hf53 : f50 1 = 0) (hf56 : f50 49 = 0) (hf57 : f51 1 = 0) (hf58 : f50 98 = 0) (hf59 : f51 2 = 0) (hf60 : f50 147 = 0) (hf61 : f51 3 = 0) (hf62 : f50 196 = 0) (hf63 : f51 4 = 0) (hf64 : f50 245 = 0) (hf65 : f51 5 = 0) (hf66 : f50 294 = 0) (hf67 : f51 6 = 0) (hf68 : f50 343 = 0) (hf69 : f51 7 = 0) (hf70 : f50 392 = 0) (h5 : (0 : Int32) ≤ x2) (h6 : x2 ≤ 99) (h7 : (1 : Int32) ≤ x3) (h8 : x3 ≤ 16) (h9 : (1 : Int32) ≤ x4) (h10 : x4 ≤ 9) (sz : Nat) : Met l yX10_added [Cond.code yX10_added cX10_added 6 (some .int)] ({ frames := 5, cells := 0, slots := 0, locals := 118 } : Room) (va_Pc [.ref q1, .int 0, .int 0, .int x2, .int x3, .int x4] (PX g sz [(q71, .inl (g.2 0, 3976, .inl f51)), (q55, .inl (g.2 0, 8, .inl f51)), (q54, .inl (g.2 0, 8, .inl f51)), (q48, .inl (g.2 0, 497, .inl f51)), (q49, .inl (g.2 0, 497, .inl f50)), (q1, .inr (12, [.ref q49, w12, .ref q48, w14, .ref q71, .int 0, w17, .ref q54, .ref q55, w20, w21, w22, w23, w24, w25, w26, w27, w28, w29, w30, w31, w32, w33, w34, w35, w36, w37, w38, w39, w40, w41, w42, w43, w44, w45, w46, w47]))])) (QI g [(q71, .inl (g.2 0, 3976, .inl f51)), (q55, .inl (g.2 0, 8, .inl f51)), (q54, .inl (g.2 0, 8, .inl f51)), (q48, .inl (g.2 0, 497, .inl f51)), (q49, .inl (g.2 0, 497, .inl f50)), (q1, .inr (12, [.ref q49, w12, .ref q48, w14, .ref q71, .int 0, w17, .ref q54, .ref q55, w20, w21, w22, w23, w24, w25, w26, w27, w28, w29, w30, w31, w32, w33, w34, w35, w36, w37, w38, w39, w40, w41, w42, w43, w44, w45, w46, w47]))] sz 1 (fun _ => [(q55, .inl (g.2 0, 8, .inl (upd f51 0 1))), (q54, .inl (g.2 0, 8, .inl (upd f51 0 x3))), (q71, .inl (g.2 0, 3976, .inl (cpF 497 (cpF 497 f50 f51) f51))), (q48, .inl (g.2 0, 497, .inl (cpF 497 f50 f51))), (q49, .inl (g.2 0, 497, .inl (upd (upd (upd (upd f50 2 x2) 3 x3) 4 x4) 0 1))), (q1, .inr (12, [.ref q49, w12, .ref q48, w14, .ref q71, .int 1, .int 0, .ref q54, .ref q55, w20, w21, w22, w23, w24, w25, w26, w27, w28, w29, w30, w31, w32, w33, w34, w35, w36, w37, w38, w39, w40, w41, w42, w43, w44, w45, w46, w47]))])) 0 0 (va_A [(q71, .inl (g.2 0, 3976, .inl f51)), (q55, .inl (g.2 0, 8, .inl f51)), (q54, .inl (g.2 0, 8, .inl f51)), (q48, .inl (g.2 0, 497, .inl f51)), (q49, .inl (g.2 0, 497, .inl f50)), (q1, .inr (12, [.ref q49, w12, .ref q48, w14, .ref q71, .int 0, w17, .ref q54, .ref q55, w20, w21, w22, w23, w24, w25, w26, w27, w28, w29, w30, w31, w32, w33, w34, w35, w36, w37, w38, w39, w40, w41, w42, w43, w44, w45, w46, w47]))] sz) := by
  refine ofN (by decide) (Nat.le_of_ble_eq_true rfl) rfl ?_
  intro p e s m args below meth c A ls hAe hsz hx hb hml hr hlocks hin hown hE hP hD hA hS hl
  have hown : s.vm.findClass RX10 = some m.cls := hown
  refine lv_aload_n hx hb dX10_added_0 rfl (lv_at hl 0 rfl) ?_
  refine lv_iload_n hx hb dX10_added_1 rfl (lv_at hl 1 rfl) ?_
  refine g0_i (rS (rest := [.ref q1]) hx hb hml hown hE hP hD (c94_X10_isPattern l g 0 (by decide) (by decide) s.heap.size) (kS_X10_isPattern hE (e1428 hE) rfl rfl ⟨(Nat.le_of_ble_eq_true rfl), (Nat.le_of_ble_eq_true rfl)⟩) [] rfl (by decide) rfl hl.1 rfl (lv_room (Nat.le_of_ble_eq_true rfl)) dX10_added_2 ⟨(Nat.le_of_ble_eq_true rfl), (Nat.le_of_ble_eq_true rfl)⟩) hP hD hS hA (fun u9 H locs hP hS => ?_)
  refine lv_if_ne (tgt := 12) hx hb dX10_added_5 (by decide) (fun _ => ?_) (fun h => absurd h (by decide))
  refine lv_iload_n hx hb dX10_added_12 rfl (lv_at hl 1 rfl) ?_
  refine lv_iload_n hx hb dX10_added_13 rfl (lv_at hl 2 rfl) ?_
  refine lv_iload_n hx hb dX10_added_14 rfl (lv_at hl 3 rfl) ?_
  refine lv_iload hx hb dX10_added_15 (lv_at hl 4 rfl) ?_
  refine lv_iload hx hb dX10_added_17 (lv_at hl 5 rfl) ?_
  refine g0_i (rS (rest := [.ref q1]) hx hb hml hown hE hP hD (c197_X10_isRanged l g x2 x3 x4 h5 h6 h7 h8 h9 h10 H.size) (kS_X10_isRanged hE (e1434 hE) rfl rfl ⟨(Nat.le_of_ble_eq_true rfl), (Nat.le_of_ble_eq_true rfl)⟩) [] rfl (by decide) rfl hl.1 rfl (lv_room (Nat.le_of_ble_eq_true rfl)) dX10_added_19 ⟨(Nat.le_of_ble_eq_true rfl), (Nat.le_of_ble_eq_true rfl)⟩) hP hD hS hA (fun u9 H locs hP hS => ?_)
  refine lv_if_ne (tgt := 29) hx hb dX10_added_22 (by decide) (fun _ => ?_) (fun h => absurd h (by decide))
  refine lv_iconst (v := 0) hx hb dX10_added_29 (by decide) ?_
  refine pf_RX10_86 (ws' := [(q71, .inl (g.2 0, 3976, .inl f51)), (q55, .inl (g.2 0, 8, .inl f51)), (q54, .inl (g.2 0, 8, .inl f51)), (q48, .inl (g.2 0, 497, .inl f51)), (q49, .inl (g.2 0, 497, .inl f50)), (q1, .inr (12, [.ref q49, w12, .ref q48, w14, .ref q71, .int 0, .int 0, .ref q54, .ref q55, w20, w21, w22, w23, w24, w25, w26, w27, w28, w29, w30, w31, w32, w33, w34, w35, w36, w37, w38, w39, w40, w41, w42, w43, w44, w45, w46, w47]))]) hx hb hown hE hP hD hS 5 rfl rfl rfl (Nat.le_of_ble_eq_true rfl) dX10_added_30 rfl (fun H locs hP hD hS => ?_)
  refine lv_aload_n hx hb dX10_added_33 rfl (lv_at hl 0 rfl) ?_
  refine gf_RX10_86 hx hb hown hE hP 5 rfl rfl dX10_added_34 ?_
  refine lv_if_le (tgt := 42) hx hb dX10_added_37 (by decide) (fun _ => ?_) (fun h => absurd (by decide) h)
  refine lv_aload_n hx hb dX10_added_42 rfl (lv_at hl 0 rfl) ?_
  refine g_v (wr := [(q71, .inl (g.2 0, 3976, .inl f51)), (q55, .inl (g.2 0, 8, .inl f51)), (q54, .inl (g.2 0, 8, .inl f51))]) (rV (rest := []) hx hb hml hown hE hP hD 5 rfl rfl (c198_X10_putAside l g q1 q48 q49 w12 w14 (.ref q71) (.int 0) (.int 0) (.ref q54) (.ref q55) w20 w21 w22 w23 w24 w25 w26 w27 w28 w29 w30 w31 w32 w33 w34 w35 w36 w37 w38 w39 w40 w41 w42 w43 w44 w45 w46 w47 f50 f51 H.size) (kV_X10_putAside hE (e1437 hE) rfl rfl ⟨(Nat.le_of_ble_eq_true rfl), (Nat.le_of_ble_eq_true rfl)⟩) [3, 4, 5] rfl (by decide) rfl hl.1 rfl (lv_room (Nat.le_of_ble_eq_true rfl)) dX10_added_43 ⟨(Nat.le_of_ble_eq_true rfl), (Nat.le_of_ble_eq_true rfl)⟩) hP hD hS hA [3, 4, 5] [0, 1, 2] rfl rfl (by decide) (by decide) (fun u3 H locs hP hD hS => ?_)
  have hP : va_P g.1 vwCl [(q71, .inl (g.2 0, 3976, .inl f51)), (q55, .inl (g.2 0, 8, .inl f51)), (q54, .inl (g.2 0, 8, .inl f51)), (q48, .inl (g.2 0, 497, .inl (cpF 497 f50 f51))), (q49, .inl (g.2 0, 497, .inl f50)), (q1, .inr (12, [.ref q49, w12, .ref q48, w14, .ref q71, .int 0, .int 0, .ref q54, .ref q55, w20, w21, w22, w23, w24, w25, w26, w27, w28, w29, w30, w31, w32, w33, w34, w35, w36, w37, w38, w39, w40, w41, w42, w43, w44, w45, w46, w47]))] H := hP
  have hD : va_D A [(q71, .inl (g.2 0, 3976, .inl f51)), (q55, .inl (g.2 0, 8, .inl f51)), (q54, .inl (g.2 0, 8, .inl f51)), (q48, .inl (g.2 0, 497, .inl (cpF 497 f50 f51))), (q49, .inl (g.2 0, 497, .inl f50)), (q1, .inr (12, [.ref q49, w12, .ref q48, w14, .ref q71, .int 0, .int 0, .ref q54, .ref q55, w20, w21, w22, w23, w24, w25, w26, w27, w28, w29, w30, w31, w32, w33, w34, w35, w36, w37, w38, w39, w40, w41, w42, w43, w44, w45, w46, w47]))] := hD
  refine lv_aload_n hx hb dX10_added_46 rfl (lv_at hl 0 rfl) ?_
  refine lv_iload_n hx hb dX10_added_47 rfl (lv_at hl 1 rfl) ?_
  refine lv_iload_n hx hb dX10_added_48 rfl (lv_at hl 2 rfl) ?_
  refine lv_iload_n hx hb dX10_added_49 rfl (lv_at hl 3 rfl) ?_
  refine lv_iload hx hb dX10_added_50 (lv_at hl 4 rfl) ?_
  refine lv_iload hx hb dX10_added_52 (lv_at hl 5 rfl) ?_
  refine g_i (wr := [(q71, .inl (g.2 0, 3976, .inl f51)), (q48, .inl (g.2 0, 497, .inl (cpF 497 f50 f51)))]) (rV (rest := []) hx hb hml hown hE hP hD 5 rfl rfl (c219_X10_adds l g q1 q49 q54 q55 x2 x3 x4 w12 (.ref q48) w14 (.ref q71) (.int 0) (.int 0) w20 w21 w22 w23 w24 w25 w26 w27 w28 w29 w30 w31 w32 w33 w34 w35 w36 w37 w38 w39 w40 w41 w42 w43 w44 w45 w46 w47 f50 f51 (hf52) (hf53) (hf56) (hf57) (hf58) (hf59) (hf60) (hf61) (hf62) (hf63) (hf64) (hf65) (hf66) (hf67) (hf68) (hf69) (hf70) (i_lele h8 (by decide)) (i_lele h8 (by decide)) H.size) (kV_X10_adds hE (e1441 hE) rfl rfl ⟨(Nat.le_of_ble_eq_true rfl), (Nat.le_of_ble_eq_true rfl)⟩) [1, 2, 4, 5] rfl (by decide) rfl hl.1 rfl (lv_room (Nat.le_of_ble_eq_true rfl)) dX10_added_54 ⟨(Nat.le_of_ble_eq_true rfl), (Nat.le_of_ble_eq_true rfl)⟩) hP hD hS hA [1, 2, 4, 5] [0, 3] rfl rfl (by decide) (by decide) (fun u4 H locs hP hD hS => ?_)
  have hP : va_P g.1 vwCl [(q71, .inl (g.2 0, 3976, .inl f51)), (q48, .inl (g.2 0, 497, .inl (cpF 497 f50 f51))), (q55, .inl (g.2 0, 8, .inl (upd f51 0 1))), (q54, .inl (g.2 0, 8, .inl (upd f51 0 x3))), (q49, .inl (g.2 0, 497, .inl (upd (upd (upd (upd f50 2 x2) 3 x3) 4 x4) 0 1))), (q1, .inr (12, [.ref q49, w12, .ref q48, w14, .ref q71, .int 0, .int 0, .ref q54, .ref q55, w20, w21, w22, w23, w24, w25, w26, w27, w28, w29, w30, w31, w32, w33, w34, w35, w36, w37, w38, w39, w40, w41, w42, w43, w44, w45, w46, w47]))] H := hP
  have hD : va_D A [(q71, .inl (g.2 0, 3976, .inl f51)), (q48, .inl (g.2 0, 497, .inl (cpF 497 f50 f51))), (q55, .inl (g.2 0, 8, .inl (upd f51 0 1))), (q54, .inl (g.2 0, 8, .inl (upd f51 0 x3))), (q49, .inl (g.2 0, 497, .inl (upd (upd (upd (upd f50 2 x2) 3 x3) 4 x4) 0 1))), (q1, .inr (12, [.ref q49, w12, .ref q48, w14, .ref q71, .int 0, .int 0, .ref q54, .ref q55, w20, w21, w22, w23, w24, w25, w26, w27, w28, w29, w30, w31, w32, w33, w34, w35, w36, w37, w38, w39, w40, w41, w42, w43, w44, w45, w46, w47]))] := hD
  refine lv_if_ne (tgt := 70) hx hb dX10_added_57 (by decide) (fun _ => ?_) (fun h => absurd h (by decide))
  refine lv_aload_n hx hb dX10_added_70 rfl (lv_at hl 0 rfl) ?_
  refine g_v (wr := [(q55, .inl (g.2 0, 8, .inl (upd f51 0 1))), (q54, .inl (g.2 0, 8, .inl (upd f51 0 x3))), (q49, .inl (g.2 0, 497, .inl (upd (upd (upd (upd f50 2 x2) 3 x3) 4 x4) 0 1)))]) (rV (rest := []) hx hb hml hown hE hP hD 5 rfl rfl (c220_X10_keep l g q1 q71 q48 (.ref q49) w12 w14 (.int 0) (.ref q54) (.ref q55) w20 w21 w22 w23 w24 w25 w26 w27 w28 w29 w30 w31 w32 w33 w34 w35 w36 w37 w38 w39 w40 w41 w42 w43 w44 w45 w46 w47 (cpF 497 f50 f51) f51 H.size) (kV_X10_keep hE (e1478 hE) rfl rfl ⟨(Nat.le_of_ble_eq_true rfl), (Nat.le_of_ble_eq_true rfl)⟩) [0, 1, 5] rfl (by decide) rfl hl.1 rfl (lv_room (Nat.le_of_ble_eq_true rfl)) dX10_added_71 ⟨(Nat.le_of_ble_eq_true rfl), (Nat.le_of_ble_eq_true rfl)⟩) hP hD hS hA [0, 1, 5] [2, 3, 4] rfl rfl (by decide) (by decide) (fun u5 H locs hP hD hS => ?_)
  have hP : va_P g.1 vwCl [(q55, .inl (g.2 0, 8, .inl (upd f51 0 1))), (q54, .inl (g.2 0, 8, .inl (upd f51 0 x3))), (q49, .inl (g.2 0, 497, .inl (upd (upd (upd (upd f50 2 x2) 3 x3) 4 x4) 0 1))), (q71, .inl (g.2 0, 3976, .inl (cpF 497 (cpF 497 f50 f51) f51))), (q48, .inl (g.2 0, 497, .inl (cpF 497 f50 f51))), (q1, .inr (12, [.ref q49, w12, .ref q48, w14, .ref q71, .int 1, .int 0, .ref q54, .ref q55, w20, w21, w22, w23, w24, w25, w26, w27, w28, w29, w30, w31, w32, w33, w34, w35, w36, w37, w38, w39, w40, w41, w42, w43, w44, w45, w46, w47]))] H := hP
  have hD : va_D A [(q55, .inl (g.2 0, 8, .inl (upd f51 0 1))), (q54, .inl (g.2 0, 8, .inl (upd f51 0 x3))), (q49, .inl (g.2 0, 497, .inl (upd (upd (upd (upd f50 2 x2) 3 x3) 4 x4) 0 1))), (q71, .inl (g.2 0, 3976, .inl (cpF 497 (cpF 497 f50 f51) f51))), (q48, .inl (g.2 0, 497, .inl (cpF 497 f50 f51))), (q1, .inr (12, [.ref q49, w12, .ref q48, w14, .ref q71, .int 1, .int 0, .ref q54, .ref q55, w20, w21, w22, w23, w24, w25, w26, w27, w28, w29, w30, w31, w32, w33, w34, w35, w36, w37, w38, w39, w40, w41, w42, w43, w44, w45, w46, w47]))] := hD
  refine lv_aload_n hx hb dX10_added_74 rfl (lv_at hl 0 rfl) ?_
  refine lv_iload_n hx hb dX10_added_75 rfl (lv_at hl 1 rfl) ?_
  refine g_i (wr := [(q55, .inl (g.2 0, 8, .inl (upd f51 0 1))), (q54, .inl (g.2 0, 8, .inl (upd f51 0 x3))), (q71, .inl (g.2 0, 3976, .inl (cpF 497 (cpF 497 f50 f51) f51))), (q48, .inl (g.2 0, 497, .inl (cpF 497 f50 f51)))]) (rV (rest := []) hx hb hml hown hE hP hD 5 rfl rfl (c200_X10_many l g q1 q49 w12 (.ref q48) w14 (.ref q71) (.int 1) (.int 0) (.ref q54) (.ref q55) w20 w21 w22 w23 w24 w25 w26 w27 w28 w29 w30 w31 w32 w33 w34 w35 w36 w37 w38 w39 w40 w41 w42 w43 w44 w45 w46 w47 (upd (upd (upd (upd f50 2 x2) 3 x3) 4 x4) 0 1) (pk_us) H.size) (kV_X10_many hE (e1456 hE) rfl rfl ⟨(Nat.le_of_ble_eq_true rfl), (Nat.le_of_ble_eq_true rfl)⟩) [2, 5] rfl (by decide) rfl hl.1 rfl (lv_room (Nat.le_of_ble_eq_true rfl)) dX10_added_76 ⟨(Nat.le_of_ble_eq_true rfl), (Nat.le_of_ble_eq_true rfl)⟩) hP hD hS hA [2, 5] [0, 1, 3, 4] rfl rfl (by decide) (by decide) (fun u6 H locs hP hD hS => ?_)
  have hP : va_P g.1 vwCl [(q55, .inl (g.2 0, 8, .inl (upd f51 0 1))), (q54, .inl (g.2 0, 8, .inl (upd f51 0 x3))), (q71, .inl (g.2 0, 3976, .inl (cpF 497 (cpF 497 f50 f51) f51))), (q48, .inl (g.2 0, 497, .inl (cpF 497 f50 f51))), (q49, .inl (g.2 0, 497, .inl (upd (upd (upd (upd f50 2 x2) 3 x3) 4 x4) 0 1))), (q1, .inr (12, [.ref q49, w12, .ref q48, w14, .ref q71, .int 1, .int 0, .ref q54, .ref q55, w20, w21, w22, w23, w24, w25, w26, w27, w28, w29, w30, w31, w32, w33, w34, w35, w36, w37, w38, w39, w40, w41, w42, w43, w44, w45, w46, w47]))] H := hP
  have hD : va_D A [(q55, .inl (g.2 0, 8, .inl (upd f51 0 1))), (q54, .inl (g.2 0, 8, .inl (upd f51 0 x3))), (q71, .inl (g.2 0, 3976, .inl (cpF 497 (cpF 497 f50 f51) f51))), (q48, .inl (g.2 0, 497, .inl (cpF 497 f50 f51))), (q49, .inl (g.2 0, 497, .inl (upd (upd (upd (upd f50 2 x2) 3 x3) 4 x4) 0 1))), (q1, .inr (12, [.ref q49, w12, .ref q48, w14, .ref q71, .int 1, .int 0, .ref q54, .ref q55, w20, w21, w22, w23, w24, w25, w26, w27, w28, w29, w30, w31, w32, w33, w34, w35, w36, w37, w38, w39, w40, w41, w42, w43, w44, w45, w46, w47]))] := hD
  exact x_zret hx hb hr rfl rfl hlocks hP hD hS hAe hsz (Nat.le_of_ble_eq_true rfl) (Nat.le_of_ble_eq_true rfl) (fun _ => 0) [0, 1, 2, 3, 4, 5] (by decide) rfl dX10_added_79

set_option maxHeartbeats 4000000 in
set_option maxRecDepth 100000 in
theorem c222_X10_addNote (l : Launch) (g : gG) (q1 q48 q49 q54 q55 q71 : Nat) (x2 x3 x4 : Int32) (w6 w8 w11 w14 w15 w16 w17 w18 w19 w20 w21 w22 w23 w24 w25 w26 w27 w28 w29 w30 w31 w32 w33 w34 w35 w36 w37 w38 w39 w40 w41 : Value) (f50 : Nat → Int32) (f51 : Nat → Int32) (hf52 : f50 0 = 0) (hf53 : f50 1 = 0) (hf56 : f50 49 = 0) (hf57 : f51 1 = 0) (hf58 : f50 98 = 0) (hf59 : f51 2 = 0) (hf60 : f50 147 = 0) (hf61 : f51 3 = 0) (hf62 : f50 196 = 0) (hf63 : f51 4 = 0) (hf64 : f50 245 = 0) (hf65 : f51 5 = 0) (hf66 : f50 294 = 0) (hf67 : f51 6 = 0) (hf68 : f50 343 = 0) (hf69 : f51 7 = 0) (hf70 : f50 392 = 0) (h42 : (0 : Int32) ≤ x2) (h43 : x2 ≤ 99) (h44 : (1 : Int32) ≤ x3) (h45 : x3 ≤ 16) (h46 : (1 : Int32) ≤ x4) (h47 : x4 ≤ 9) (sz : Nat) : Met l yX10_addNote [Cond.code yX10_addNote cX10_addNote 5 (some .int)] ({ frames := 6, cells := 0, slots := 0, locals := 143 } : Room) (va_Pc [.ref q1, .int 0, .int x2, .int x3, .int x4] (PX g sz [(q71, .inl (g.2 0, 3976, .inl f51)), (q55, .inl (g.2 0, 8, .inl f51)), (q54, .inl (g.2 0, 8, .inl f51)), (q48, .inl (g.2 0, 497, .inl f51)), (q49, .inl (g.2 0, 497, .inl f50)), (q1, .inr (12, [.ref q49, w6, .ref q48, w8, .ref q71, .int 0, w11, .ref q54, .ref q55, w14, w15, w16, w17, w18, w19, w20, w21, w22, w23, w24, w25, w26, w27, w28, w29, w30, w31, w32, w33, w34, w35, w36, w37, w38, w39, w40, w41]))])) (QI g [(q71, .inl (g.2 0, 3976, .inl f51)), (q55, .inl (g.2 0, 8, .inl f51)), (q54, .inl (g.2 0, 8, .inl f51)), (q48, .inl (g.2 0, 497, .inl f51)), (q49, .inl (g.2 0, 497, .inl f50)), (q1, .inr (12, [.ref q49, w6, .ref q48, w8, .ref q71, .int 0, w11, .ref q54, .ref q55, w14, w15, w16, w17, w18, w19, w20, w21, w22, w23, w24, w25, w26, w27, w28, w29, w30, w31, w32, w33, w34, w35, w36, w37, w38, w39, w40, w41]))] sz 1 (fun _ => [(q1, .inr (12, [.ref q49, w6, .ref q48, w8, .ref q71, .int 1, .int 0, .ref q54, .ref q55, w14, w15, w16, w17, w18, w19, w20, w21, w22, w23, w24, w25, w26, w27, w28, w29, w30, w31, w32, w33, w34, w35, w36, w37, w38, w39, w40, w41]))])) 0 0 (va_A [(q71, .inl (g.2 0, 3976, .inl f51)), (q55, .inl (g.2 0, 8, .inl f51)), (q54, .inl (g.2 0, 8, .inl f51)), (q48, .inl (g.2 0, 497, .inl f51)), (q49, .inl (g.2 0, 497, .inl f50)), (q1, .inr (12, [.ref q49, w6, .ref q48, w8, .ref q71, .int 0, w11, .ref q54, .ref q55, w14, w15, w16, w17, w18, w19, w20, w21, w22, w23, w24, w25, w26, w27, w28, w29, w30, w31, w32, w33, w34, w35, w36, w37, w38, w39, w40, w41]))] sz) := by
  refine ofN (by decide) (Nat.le_of_ble_eq_true rfl) rfl ?_
  intro p e s m args below meth c A ls hAe hsz hx hb hml hr hlocks hin hown hE hP hD hA hS hl
  have hown : s.vm.findClass RX10 = some m.cls := hown
  refine lv_aload_n hx hb dX10_addNote_0 rfl (lv_at hl 0 rfl) ?_
  refine lv_iload_n hx hb dX10_addNote_1 rfl (lv_at hl 1 rfl) ?_
  refine lv_iconst (v := 0) hx hb dX10_addNote_2 (by decide) ?_
  refine lv_iload_n hx hb dX10_addNote_3 rfl (lv_at hl 2 rfl) ?_
  refine lv_iload_n hx hb dX10_addNote_4 rfl (lv_at hl 3 rfl) ?_
  refine lv_iload hx hb dX10_addNote_5 (lv_at hl 4 rfl) ?_
  refine g_i (wr := []) (rV (rest := []) hx hb hml hown hE hP hD 5 rfl rfl (c221_X10_added l g q1 q48 q49 q54 q55 q71 x2 x3 x4 w6 w8 w11 w14 w15 w16 w17 w18 w19 w20 w21 w22 w23 w24 w25 w26 w27 w28 w29 w30 w31 w32 w33 w34 w35 w36 w37 w38 w39 w40 w41 f50 f51 (hf52) (hf53) (hf56) (hf57) (hf58) (hf59) (hf60) (hf61) (hf62) (hf63) (hf64) (hf65) (hf66) (hf67) (hf68) (hf69) (hf70) h42 h43 h44 h45 h46 h47 s.heap.size) (kV_X10_added hE (e1424 hE) rfl rfl ⟨(Nat.le_of_ble_eq_true rfl), (Nat.le_of_ble_eq_true rfl)⟩) [0, 1, 2, 3, 4, 5] rfl (by decide) rfl hl.1 rfl (lv_room (Nat.le_of_ble_eq_true rfl)) dX10_addNote_7 ⟨(Nat.le_of_ble_eq_true rfl), (Nat.le_of_ble_eq_true rfl)⟩) hP hD hS hA [0, 1, 2, 3, 4, 5] [] rfl rfl (by decide) (by decide) (fun u1 H locs hP hD hS => ?_)
  have hP : va_P g.1 vwCl [(q55, .inl (g.2 0, 8, .inl (upd f51 0 1))), (q54, .inl (g.2 0, 8, .inl (upd f51 0 x3))), (q71, .inl (g.2 0, 3976, .inl (cpF 497 (cpF 497 f50 f51) f51))), (q48, .inl (g.2 0, 497, .inl (cpF 497 f50 f51))), (q49, .inl (g.2 0, 497, .inl (upd (upd (upd (upd f50 2 x2) 3 x3) 4 x4) 0 1))), (q1, .inr (12, [.ref q49, w6, .ref q48, w8, .ref q71, .int 1, .int 0, .ref q54, .ref q55, w14, w15, w16, w17, w18, w19, w20, w21, w22, w23, w24, w25, w26, w27, w28, w29, w30, w31, w32, w33, w34, w35, w36, w37, w38, w39, w40, w41]))] H := hP
  have hD : va_D A [(q55, .inl (g.2 0, 8, .inl (upd f51 0 1))), (q54, .inl (g.2 0, 8, .inl (upd f51 0 x3))), (q71, .inl (g.2 0, 3976, .inl (cpF 497 (cpF 497 f50 f51) f51))), (q48, .inl (g.2 0, 497, .inl (cpF 497 f50 f51))), (q49, .inl (g.2 0, 497, .inl (upd (upd (upd (upd f50 2 x2) 3 x3) 4 x4) 0 1))), (q1, .inr (12, [.ref q49, w6, .ref q48, w8, .ref q71, .int 1, .int 0, .ref q54, .ref q55, w14, w15, w16, w17, w18, w19, w20, w21, w22, w23, w24, w25, w26, w27, w28, w29, w30, w31, w32, w33, w34, w35, w36, w37, w38, w39, w40, w41]))] := hD
  exact x_zret hx hb hr rfl rfl hlocks hP hD hS hAe hsz (Nat.le_of_ble_eq_true rfl) (Nat.le_of_ble_eq_true rfl) (fun _ => 0) [5] (by decide) rfl dX10_addNote_10

set_option maxHeartbeats 4000000 in
set_option maxRecDepth 100000 in
theorem c223_X9_putAt (l : Launch) (g : gG) (q1 : Nat) (f2 : Nat → Int32) (hf3 : f2 48 = 0) (sz : Nat) : Met l yX9_putAt [Cond.code yX9_putAt cX9_putAt 3 none] ({ frames := 0, cells := 0, slots := 0, locals := 0 } : Room) (va_Pc [.ref q1, .int 48, .int 0] (PX g sz [(q1, .inl (g.2 0, 384, .inl f2))])) (QV g [(q1, .inl (g.2 0, 384, .inl f2))] sz (fun _ => [(q1, .inl (g.2 0, 384, .inl f2))])) 0 0 (va_A [(q1, .inl (g.2 0, 384, .inl f2))] sz) := by
  refine ofN (by decide) (Nat.le_of_ble_eq_true rfl) rfl ?_
  intro p e s m args below meth c A ls hAe hsz hx hb hml hr hlocks hin hown hE hP hD hA hS hl
  have hown : s.vm.findClass RX9 = some m.cls := hown
  refine lv_iload_n hx hb dX9_putAt_0 rfl (lv_at hl 1 rfl) ?_
  refine lv_if_lt (tgt := 14) hx hb dX9_putAt_1 (by decide) (fun h => absurd h (by decide)) (fun _ => ?_)
  refine lv_iload_n hx hb dX9_putAt_4 rfl (lv_at hl 1 rfl) ?_
  refine lv_aload_n hx hb dX9_putAt_5 rfl (lv_at hl 0 rfl) ?_
  refine x_aleni (v := 384) hx hb hE hP 0 rfl rfl dX9_putAt_6 ?_
  refine lv_icmp_ge (tgt := 14) hx hb dX9_putAt_7 (by decide) (fun h => absurd h (by decide)) (fun _ => ?_)
  refine lv_aload_n hx hb dX9_putAt_10 rfl (lv_at hl 0 rfl) ?_
  refine lv_iload_n hx hb dX9_putAt_11 rfl (lv_at hl 1 rfl) ?_
  refine lv_iload_n hx hb dX9_putAt_12 rfl (lv_at hl 2 rfl) ?_
  refine x_iast_same hx hb hE hP hD hS 0 rfl 48 (x_in (by decide)) (by decide) hf3 dX9_putAt_13 (fun H locs hP hD hS => ?_)
  exact x_vret hx hb hr hlocks hP hD hS hAe hsz (Nat.le_of_ble_eq_true rfl) (Nat.le_of_ble_eq_true rfl) (fun _ => 0) [0] (by decide) rfl dX9_putAt_14

set_option maxHeartbeats 4000000 in
set_option maxRecDepth 100000 in
theorem c224_X9_putAt (l : Launch) (g : gG) (q1 : Nat) (x2 : Int32) (f3 : Nat → Int32) (sz : Nat) : Met l yX9_putAt [Cond.code yX9_putAt cX9_putAt 3 none] ({ frames := 0, cells := 0, slots := 0, locals := 0 } : Room) (va_Pc [.ref q1, .int 49, .int x2] (PX g sz [(q1, .inl (g.2 0, 384, .inl f3))])) (QV g [(q1, .inl (g.2 0, 384, .inl f3))] sz (fun _ => [(q1, .inl (g.2 0, 384, .inl (upd f3 49 x2)))])) 0 0 (va_A [(q1, .inl (g.2 0, 384, .inl f3))] sz) := by
  refine ofN (by decide) (Nat.le_of_ble_eq_true rfl) rfl ?_
  intro p e s m args below meth c A ls hAe hsz hx hb hml hr hlocks hin hown hE hP hD hA hS hl
  have hown : s.vm.findClass RX9 = some m.cls := hown
  refine lv_iload_n hx hb dX9_putAt_0 rfl (lv_at hl 1 rfl) ?_
  refine lv_if_lt (tgt := 14) hx hb dX9_putAt_1 (by decide) (fun h => absurd h (by decide)) (fun _ => ?_)
  refine lv_iload_n hx hb dX9_putAt_4 rfl (lv_at hl 1 rfl) ?_
  refine lv_aload_n hx hb dX9_putAt_5 rfl (lv_at hl 0 rfl) ?_
  refine x_aleni (v := 384) hx hb hE hP 0 rfl rfl dX9_putAt_6 ?_
  refine lv_icmp_ge (tgt := 14) hx hb dX9_putAt_7 (by decide) (fun h => absurd h (by decide)) (fun _ => ?_)
  refine lv_aload_n hx hb dX9_putAt_10 rfl (lv_at hl 0 rfl) ?_
  refine lv_iload_n hx hb dX9_putAt_11 rfl (lv_at hl 1 rfl) ?_
  refine lv_iload_n hx hb dX9_putAt_12 rfl (lv_at hl 2 rfl) ?_
  refine x_iast (ws' := [(q1, .inl (g.2 0, 384, .inl (upd f3 49 x2)))]) hx hb hE hP hD hS 0 rfl 49 (x_in (by decide)) (by decide) dX9_putAt_13 rfl (fun H locs hP hD hS => ?_)
  exact x_vret hx hb hr hlocks hP hD hS hAe hsz (Nat.le_of_ble_eq_true rfl) (Nat.le_of_ble_eq_true rfl) (fun _ => 0) [0] (by decide) rfl dX9_putAt_14

set_option maxHeartbeats 4000000 in
set_option maxRecDepth 100000 in
theorem c225_X9_putAt (l : Launch) (g : gG) (q1 : Nat) (x2 : Int32) (f3 : Nat → Int32) (sz : Nat) : Met l yX9_putAt [Cond.code yX9_putAt cX9_putAt 3 none] ({ frames := 0, cells := 0, slots := 0, locals := 0 } : Room) (va_Pc [.ref q1, .int 50, .int x2] (PX g sz [(q1, .inl (g.2 0, 384, .inl f3))])) (QV g [(q1, .inl (g.2 0, 384, .inl f3))] sz (fun _ => [(q1, .inl (g.2 0, 384, .inl (upd f3 50 x2)))])) 0 0 (va_A [(q1, .inl (g.2 0, 384, .inl f3))] sz) := by
  refine ofN (by decide) (Nat.le_of_ble_eq_true rfl) rfl ?_
  intro p e s m args below meth c A ls hAe hsz hx hb hml hr hlocks hin hown hE hP hD hA hS hl
  have hown : s.vm.findClass RX9 = some m.cls := hown
  refine lv_iload_n hx hb dX9_putAt_0 rfl (lv_at hl 1 rfl) ?_
  refine lv_if_lt (tgt := 14) hx hb dX9_putAt_1 (by decide) (fun h => absurd h (by decide)) (fun _ => ?_)
  refine lv_iload_n hx hb dX9_putAt_4 rfl (lv_at hl 1 rfl) ?_
  refine lv_aload_n hx hb dX9_putAt_5 rfl (lv_at hl 0 rfl) ?_
  refine x_aleni (v := 384) hx hb hE hP 0 rfl rfl dX9_putAt_6 ?_
  refine lv_icmp_ge (tgt := 14) hx hb dX9_putAt_7 (by decide) (fun h => absurd h (by decide)) (fun _ => ?_)
  refine lv_aload_n hx hb dX9_putAt_10 rfl (lv_at hl 0 rfl) ?_
  refine lv_iload_n hx hb dX9_putAt_11 rfl (lv_at hl 1 rfl) ?_
  refine lv_iload_n hx hb dX9_putAt_12 rfl (lv_at hl 2 rfl) ?_
  refine x_iast (ws' := [(q1, .inl (g.2 0, 384, .inl (upd f3 50 x2)))]) hx hb hE hP hD hS 0 rfl 50 (x_in (by decide)) (by decide) dX9_putAt_13 rfl (fun H locs hP hD hS => ?_)
  exact x_vret hx hb hr hlocks hP hD hS hAe hsz (Nat.le_of_ble_eq_true rfl) (Nat.le_of_ble_eq_true rfl) (fun _ => 0) [0] (by decide) rfl dX9_putAt_14

set_option maxHeartbeats 4000000 in
set_option maxRecDepth 100000 in
theorem c226_X9_putAt (l : Launch) (g : gG) (q1 : Nat) (x2 : Int32) (f3 : Nat → Int32) (sz : Nat) : Met l yX9_putAt [Cond.code yX9_putAt cX9_putAt 3 none] ({ frames := 0, cells := 0, slots := 0, locals := 0 } : Room) (va_Pc [.ref q1, .int 51, .int x2] (PX g sz [(q1, .inl (g.2 0, 384, .inl f3))])) (QV g [(q1, .inl (g.2 0, 384, .inl f3))] sz (fun _ => [(q1, .inl (g.2 0, 384, .inl (upd f3 51 x2)))])) 0 0 (va_A [(q1, .inl (g.2 0, 384, .inl f3))] sz) := by
  refine ofN (by decide) (Nat.le_of_ble_eq_true rfl) rfl ?_
  intro p e s m args below meth c A ls hAe hsz hx hb hml hr hlocks hin hown hE hP hD hA hS hl
  have hown : s.vm.findClass RX9 = some m.cls := hown
  refine lv_iload_n hx hb dX9_putAt_0 rfl (lv_at hl 1 rfl) ?_
  refine lv_if_lt (tgt := 14) hx hb dX9_putAt_1 (by decide) (fun h => absurd h (by decide)) (fun _ => ?_)
  refine lv_iload_n hx hb dX9_putAt_4 rfl (lv_at hl 1 rfl) ?_
  refine lv_aload_n hx hb dX9_putAt_5 rfl (lv_at hl 0 rfl) ?_
  refine x_aleni (v := 384) hx hb hE hP 0 rfl rfl dX9_putAt_6 ?_
  refine lv_icmp_ge (tgt := 14) hx hb dX9_putAt_7 (by decide) (fun h => absurd h (by decide)) (fun _ => ?_)
  refine lv_aload_n hx hb dX9_putAt_10 rfl (lv_at hl 0 rfl) ?_
  refine lv_iload_n hx hb dX9_putAt_11 rfl (lv_at hl 1 rfl) ?_
  refine lv_iload_n hx hb dX9_putAt_12 rfl (lv_at hl 2 rfl) ?_
  refine x_iast (ws' := [(q1, .inl (g.2 0, 384, .inl (upd f3 51 x2)))]) hx hb hE hP hD hS 0 rfl 51 (x_in (by decide)) (by decide) dX9_putAt_13 rfl (fun H locs hP hD hS => ?_)
  exact x_vret hx hb hr hlocks hP hD hS hAe hsz (Nat.le_of_ble_eq_true rfl) (Nat.le_of_ble_eq_true rfl) (fun _ => 0) [0] (by decide) rfl dX9_putAt_14

set_option maxHeartbeats 4000000 in
set_option maxRecDepth 100000 in
theorem c227_X3_putFigure (l : Launch) (g : gG) (q1 q4 : Nat) (w2 : Value) (f5 : Nat → Int32) (sz : Nat) : Met l yX3_putFigure [Cond.code yX3_putFigure cX3_putFigure 5 none] ({ frames := 0, cells := 0, slots := 0, locals := 0 } : Room) (va_Pc [.ref q1, .int 1, .int 0, .int 1] (PX g sz [(q4, .inl (g.2 0, 40, .inl f5)), (q1, .inr (5, [w2, .ref q4]))])) (QV g [(q4, .inl (g.2 0, 40, .inl f5)), (q1, .inr (5, [w2, .ref q4]))] sz (fun _ => [(q4, .inl (g.2 0, 40, .inl (upd f5 5 1))), (q1, .inr (5, [w2, .ref q4]))])) 0 0 (va_A [(q4, .inl (g.2 0, 40, .inl f5)), (q1, .inr (5, [w2, .ref q4]))] sz) := by
  refine ofN (by decide) (Nat.le_of_ble_eq_true rfl) rfl ?_
  intro p e s m args below meth c A ls hAe hsz hx hb hml hr hlocks hin hown hE hP hD hA hS hl
  have hown : s.vm.findClass RX3 = some m.cls := hown
  refine lv_iload_n hx hb dX3_putFigure_0 rfl (lv_at hl 1 rfl) ?_
  refine lv_iconst (v := 5) hx hb dX3_putFigure_1 (by decide) ?_
  refine x_imul (v := 5) hx hb dX3_putFigure_2 (by decide) ?_
  refine lv_iload_n hx hb dX3_putFigure_3 rfl (lv_at hl 2 rfl) ?_
  refine x_iadd (v := 5) hx hb dX3_putFigure_4 (by decide) ?_
  refine lv_istore (lv' := [(4, .int 5), (0, .ref q1), (1, .int 1), (2, .int 0), (3, .int 1)]) hx hb dX3_putFigure_5 hl (by decide) rfl (fun ls hl => ?_)
  refine lv_iload hx hb dX3_putFigure_7 (lv_at hl 0 rfl) ?_
  refine lv_if_lt (tgt := 30) hx hb dX3_putFigure_9 (by decide) (fun h => absurd h (by decide)) (fun _ => ?_)
  refine lv_iload hx hb dX3_putFigure_12 (lv_at hl 0 rfl) ?_
  refine lv_aload_n hx hb dX3_putFigure_14 rfl (lv_at hl 1 rfl) ?_
  refine gf_RX3_15 hx hb hown hE hP 1 rfl rfl dX3_putFigure_15 ?_
  refine x_aleni (v := 40) hx hb hE hP 0 rfl rfl dX3_putFigure_18 ?_
  refine lv_icmp_ge (tgt := 30) hx hb dX3_putFigure_19 (by decide) (fun h => absurd h (by decide)) (fun _ => ?_)
  refine lv_aload_n hx hb dX3_putFigure_22 rfl (lv_at hl 1 rfl) ?_
  refine gf_RX3_15 hx hb hown hE hP 1 rfl rfl dX3_putFigure_23 ?_
  refine lv_iload hx hb dX3_putFigure_26 (lv_at hl 0 rfl) ?_
  refine lv_iload_n hx hb dX3_putFigure_28 rfl (lv_at hl 4 rfl) ?_
  refine x_iast (ws' := [(q4, .inl (g.2 0, 40, .inl (upd f5 5 1))), (q1, .inr (5, [w2, .ref q4]))]) hx hb hE hP hD hS 0 rfl 5 (x_in (by decide)) (by decide) dX3_putFigure_29 rfl (fun H locs hP hD hS => ?_)
  exact x_vret hx hb hr hlocks hP hD hS hAe hsz (Nat.le_of_ble_eq_true rfl) (Nat.le_of_ble_eq_true rfl) (fun _ => 0) [0, 1] (by decide) rfl dX3_putFigure_30

set_option maxHeartbeats 4000000 in
set_option maxRecDepth 100000 in
theorem c228_X3_putItem (l : Launch) (g : gG) (q1 q7 q10 : Nat) (x2 x3 x4 : Int32) (f8 : Nat → Int32) (f11 : Nat → Int32) (hf9 : f8 5 = 0) (hf12 : f11 48 = 0) (sz : Nat) : Met l yX3_putItem [Cond.code yX3_putItem cX3_putItem 8 none] ({ frames := 1, cells := 0, slots := 0, locals := 24 } : Room) (va_Pc [.ref q1, .int 1, .int 0, .int x2, .int x3, .int x4] (PX g sz [(q10, .inl (g.2 0, 384, .inl f11)), (q7, .inl (g.2 0, 40, .inl f8)), (q1, .inr (5, [.ref q10, .ref q7]))])) (QV g [(q10, .inl (g.2 0, 384, .inl f11)), (q7, .inl (g.2 0, 40, .inl f8)), (q1, .inr (5, [.ref q10, .ref q7]))] sz (fun _ => [(q10, .inl (g.2 0, 384, .inl (upd (upd (upd f11 49 x2) 50 x3) 51 x4))), (q7, .inl (g.2 0, 40, .inl (upd f8 5 1))), (q1, .inr (5, [.ref q10, .ref q7]))])) 0 0 (va_A [(q10, .inl (g.2 0, 384, .inl f11)), (q7, .inl (g.2 0, 40, .inl f8)), (q1, .inr (5, [.ref q10, .ref q7]))] sz) := by
  refine ofN (by decide) (Nat.le_of_ble_eq_true rfl) rfl ?_
  intro p e s m args below meth c A ls hAe hsz hx hb hml hr hlocks hin hown hE hP hD hA hS hl
  have hown : s.vm.findClass RX3 = some m.cls := hown
  refine lv_aload_n hx hb dX3_putItem_0 rfl (lv_at hl 0 rfl) ?_
  refine lv_iload_n hx hb dX3_putItem_1 rfl (lv_at hl 1 rfl) ?_
  refine lv_iconst (v := 0) hx hb dX3_putItem_2 (by decide) ?_
  refine g_i (wr := [(q10, .inl (g.2 0, 384, .inl f11))]) (rV (rest := []) hx hb hml hown hE hP hD 2 rfl rfl (c146_X3_figure l g q1 q7 (.ref q10) f8 (hf9) s.heap.size) (kV_X3_figure hE (e343 hE) rfl rfl ⟨(Nat.le_of_ble_eq_true rfl), (Nat.le_of_ble_eq_true rfl)⟩) [1, 2] rfl (by decide) rfl hl.1 rfl (lv_room (Nat.le_of_ble_eq_true rfl)) dX3_putItem_3 ⟨(Nat.le_of_ble_eq_true rfl), (Nat.le_of_ble_eq_true rfl)⟩) hP hD hS hA [1, 2] [0] rfl rfl (by decide) (by decide) (fun u1 H locs hP hD hS => ?_)
  have hP : va_P g.1 vwCl [(q10, .inl (g.2 0, 384, .inl f11)), (q7, .inl (g.2 0, 40, .inl f8)), (q1, .inr (5, [.ref q10, .ref q7]))] H := hP
  have hD : va_D A [(q10, .inl (g.2 0, 384, .inl f11)), (q7, .inl (g.2 0, 40, .inl f8)), (q1, .inr (5, [.ref q10, .ref q7]))] := hD
  refine lv_istore (lv' := [(6, .int 0), (0, .ref q1), (1, .int 1), (2, .int 0), (3, .int x2), (4, .int x3), (5, .int x4)]) hx hb dX3_putItem_6 hl (by decide) rfl (fun ls hl => ?_)
  refine lv_iload_n hx hb dX3_putItem_8 rfl (lv_at hl 2 rfl) ?_
  refine lv_bipush (v := 12) hx hb dX3_putItem_9 (by decide) ?_
  refine x_imul (v := 12) hx hb dX3_putItem_11 (by decide) ?_
  refine lv_iload hx hb dX3_putItem_12 (lv_at hl 0 rfl) ?_
  refine x_iadd (v := 12) hx hb dX3_putItem_14 (by decide) ?_
  refine lv_iconst (v := 4) hx hb dX3_putItem_15 (by decide) ?_
  refine x_imul (v := 48) hx hb dX3_putItem_16 (by decide) ?_
  refine lv_istore (lv' := [(7, .int 48), (6, .int 0), (0, .ref q1), (1, .int 1), (2, .int 0), (3, .int x2), (4, .int x3), (5, .int x4)]) hx hb dX3_putItem_17 hl (by decide) rfl (fun ls hl => ?_)
  refine lv_aload_n hx hb dX3_putItem_19 rfl (lv_at hl 2 rfl) ?_
  refine gf_RX3_9 hx hb hown hE hP 2 rfl rfl dX3_putItem_20 ?_
  refine lv_iload hx hb dX3_putItem_23 (lv_at hl 0 rfl) ?_
  refine lv_iconst (v := 0) hx hb dX3_putItem_25 (by decide) ?_
  refine x_iadd (v := 48) hx hb dX3_putItem_26 (by decide) ?_
  refine lv_iload_n hx hb dX3_putItem_27 rfl (lv_at hl 4 rfl) ?_
  refine g_v (wr := [(q7, .inl (g.2 0, 40, .inl f8)), (q1, .inr (5, [.ref q10, .ref q7]))]) (rSN (rest := []) hx hb hml hown hE hP hD (c223_X9_putAt l g q10 f11 (hf12) H.size) (kSN_X9_putAt hE (e689 hE) rfl rfl ⟨(Nat.le_of_ble_eq_true rfl), (Nat.le_of_ble_eq_true rfl)⟩) [0] rfl (by decide) rfl hl.1 rfl (lv_room (Nat.le_of_ble_eq_true rfl)) dX3_putItem_28 ⟨(Nat.le_of_ble_eq_true rfl), (Nat.le_of_ble_eq_true rfl)⟩) hP hD hS hA [0] [1, 2] rfl rfl (by decide) (by decide) (fun u2 H locs hP hD hS => ?_)
  have hP : va_P g.1 vwCl [(q7, .inl (g.2 0, 40, .inl f8)), (q1, .inr (5, [.ref q10, .ref q7])), (q10, .inl (g.2 0, 384, .inl f11))] H := hP
  have hD : va_D A [(q7, .inl (g.2 0, 40, .inl f8)), (q1, .inr (5, [.ref q10, .ref q7])), (q10, .inl (g.2 0, 384, .inl f11))] := hD
  refine lv_aload_n hx hb dX3_putItem_31 rfl (lv_at hl 2 rfl) ?_
  refine gf_RX3_9 hx hb hown hE hP 1 rfl rfl dX3_putItem_32 ?_
  refine lv_iload hx hb dX3_putItem_35 (lv_at hl 0 rfl) ?_
  refine lv_iconst (v := 1) hx hb dX3_putItem_37 (by decide) ?_
  refine x_iadd (v := 49) hx hb dX3_putItem_38 (by decide) ?_
  refine lv_iload_n hx hb dX3_putItem_39 rfl (lv_at hl 5 rfl) ?_
  refine g_v (wr := [(q7, .inl (g.2 0, 40, .inl f8)), (q1, .inr (5, [.ref q10, .ref q7]))]) (rSN (rest := []) hx hb hml hown hE hP hD (c224_X9_putAt l g q10 x2 f11 H.size) (kSN_X9_putAt hE (e689 hE) rfl rfl ⟨(Nat.le_of_ble_eq_true rfl), (Nat.le_of_ble_eq_true rfl)⟩) [2] rfl (by decide) rfl hl.1 rfl (lv_room (Nat.le_of_ble_eq_true rfl)) dX3_putItem_40 ⟨(Nat.le_of_ble_eq_true rfl), (Nat.le_of_ble_eq_true rfl)⟩) hP hD hS hA [2] [0, 1] rfl rfl (by decide) (by decide) (fun u3 H locs hP hD hS => ?_)
  have hP : va_P g.1 vwCl [(q7, .inl (g.2 0, 40, .inl f8)), (q1, .inr (5, [.ref q10, .ref q7])), (q10, .inl (g.2 0, 384, .inl (upd f11 49 x2)))] H := hP
  have hD : va_D A [(q7, .inl (g.2 0, 40, .inl f8)), (q1, .inr (5, [.ref q10, .ref q7])), (q10, .inl (g.2 0, 384, .inl (upd f11 49 x2)))] := hD
  refine lv_aload_n hx hb dX3_putItem_43 rfl (lv_at hl 2 rfl) ?_
  refine gf_RX3_9 hx hb hown hE hP 1 rfl rfl dX3_putItem_44 ?_
  refine lv_iload hx hb dX3_putItem_47 (lv_at hl 0 rfl) ?_
  refine lv_iconst (v := 2) hx hb dX3_putItem_49 (by decide) ?_
  refine x_iadd (v := 50) hx hb dX3_putItem_50 (by decide) ?_
  refine lv_iload hx hb dX3_putItem_51 (lv_at hl 6 rfl) ?_
  refine g_v (wr := [(q7, .inl (g.2 0, 40, .inl f8)), (q1, .inr (5, [.ref q10, .ref q7]))]) (rSN (rest := []) hx hb hml hown hE hP hD (c225_X9_putAt l g q10 x3 (upd f11 49 x2) H.size) (kSN_X9_putAt hE (e689 hE) rfl rfl ⟨(Nat.le_of_ble_eq_true rfl), (Nat.le_of_ble_eq_true rfl)⟩) [2] rfl (by decide) rfl hl.1 rfl (lv_room (Nat.le_of_ble_eq_true rfl)) dX3_putItem_53 ⟨(Nat.le_of_ble_eq_true rfl), (Nat.le_of_ble_eq_true rfl)⟩) hP hD hS hA [2] [0, 1] rfl rfl (by decide) (by decide) (fun u4 H locs hP hD hS => ?_)
  have hP : va_P g.1 vwCl [(q7, .inl (g.2 0, 40, .inl f8)), (q1, .inr (5, [.ref q10, .ref q7])), (q10, .inl (g.2 0, 384, .inl (upd (upd f11 49 x2) 50 x3)))] H := hP
  have hD : va_D A [(q7, .inl (g.2 0, 40, .inl f8)), (q1, .inr (5, [.ref q10, .ref q7])), (q10, .inl (g.2 0, 384, .inl (upd (upd f11 49 x2) 50 x3)))] := hD
  refine lv_aload_n hx hb dX3_putItem_56 rfl (lv_at hl 2 rfl) ?_
  refine gf_RX3_9 hx hb hown hE hP 1 rfl rfl dX3_putItem_57 ?_
  refine lv_iload hx hb dX3_putItem_60 (lv_at hl 0 rfl) ?_
  refine lv_iconst (v := 3) hx hb dX3_putItem_62 (by decide) ?_
  refine x_iadd (v := 51) hx hb dX3_putItem_63 (by decide) ?_
  refine lv_iload hx hb dX3_putItem_64 (lv_at hl 7 rfl) ?_
  refine g_v (wr := [(q7, .inl (g.2 0, 40, .inl f8)), (q1, .inr (5, [.ref q10, .ref q7]))]) (rSN (rest := []) hx hb hml hown hE hP hD (c226_X9_putAt l g q10 x4 (upd (upd f11 49 x2) 50 x3) H.size) (kSN_X9_putAt hE (e689 hE) rfl rfl ⟨(Nat.le_of_ble_eq_true rfl), (Nat.le_of_ble_eq_true rfl)⟩) [2] rfl (by decide) rfl hl.1 rfl (lv_room (Nat.le_of_ble_eq_true rfl)) dX3_putItem_66 ⟨(Nat.le_of_ble_eq_true rfl), (Nat.le_of_ble_eq_true rfl)⟩) hP hD hS hA [2] [0, 1] rfl rfl (by decide) (by decide) (fun u5 H locs hP hD hS => ?_)
  have hP : va_P g.1 vwCl [(q7, .inl (g.2 0, 40, .inl f8)), (q1, .inr (5, [.ref q10, .ref q7])), (q10, .inl (g.2 0, 384, .inl (upd (upd (upd f11 49 x2) 50 x3) 51 x4)))] H := hP
  have hD : va_D A [(q7, .inl (g.2 0, 40, .inl f8)), (q1, .inr (5, [.ref q10, .ref q7])), (q10, .inl (g.2 0, 384, .inl (upd (upd (upd f11 49 x2) 50 x3) 51 x4)))] := hD
  refine lv_aload_n hx hb dX3_putItem_69 rfl (lv_at hl 2 rfl) ?_
  refine lv_iload_n hx hb dX3_putItem_70 rfl (lv_at hl 3 rfl) ?_
  refine lv_iconst (v := 0) hx hb dX3_putItem_71 (by decide) ?_
  refine lv_iload hx hb dX3_putItem_72 (lv_at hl 1 rfl) ?_
  refine lv_iconst (v := 1) hx hb dX3_putItem_74 (by decide) ?_
  refine x_iadd (v := 1) hx hb dX3_putItem_75 (by decide) ?_
  refine g_v (wr := [(q10, .inl (g.2 0, 384, .inl (upd (upd (upd f11 49 x2) 50 x3) 51 x4)))]) (rV (rest := []) hx hb hml hown hE hP hD 1 rfl rfl (c227_X3_putFigure l g q1 q7 (.ref q10) f8 H.size) (kV_X3_putFigure hE (e91 hE) rfl rfl ⟨(Nat.le_of_ble_eq_true rfl), (Nat.le_of_ble_eq_true rfl)⟩) [0, 1] rfl (by decide) rfl hl.1 rfl (lv_room (Nat.le_of_ble_eq_true rfl)) dX3_putItem_76 ⟨(Nat.le_of_ble_eq_true rfl), (Nat.le_of_ble_eq_true rfl)⟩) hP hD hS hA [0, 1] [2] rfl rfl (by decide) (by decide) (fun u6 H locs hP hD hS => ?_)
  have hP : va_P g.1 vwCl [(q10, .inl (g.2 0, 384, .inl (upd (upd (upd f11 49 x2) 50 x3) 51 x4))), (q7, .inl (g.2 0, 40, .inl (upd f8 5 1))), (q1, .inr (5, [.ref q10, .ref q7]))] H := hP
  have hD : va_D A [(q10, .inl (g.2 0, 384, .inl (upd (upd (upd f11 49 x2) 50 x3) 51 x4))), (q7, .inl (g.2 0, 40, .inl (upd f8 5 1))), (q1, .inr (5, [.ref q10, .ref q7]))] := hD
  exact x_vret hx hb hr hlocks hP hD hS hAe hsz (Nat.le_of_ble_eq_true rfl) (Nat.le_of_ble_eq_true rfl) (fun _ => 0) [0, 1, 2] (by decide) rfl dX3_putItem_79

set_option maxHeartbeats 4000000 in
set_option maxRecDepth 100000 in
theorem c229_X9_putItem (l : Launch) (g : gG) (q1 q12 q15 q18 : Nat) (x2 x3 x4 : Int32) (w6 w7 w8 w9 w10 w11 : Value) (f16 : Nat → Int32) (f19 : Nat → Int32) (hf17 : f16 5 = 0) (hf20 : f19 48 = 0) (sz : Nat) : Met l yX9_putItem [Cond.code yX9_putItem cX9_putItem 6 none] ({ frames := 2, cells := 0, slots := 0, locals := 51 } : Room) (va_Pc [.ref q1, .int 1, .int 0, .int x2, .int x3, .int x4] (PX g sz [(q18, .inl (g.2 0, 384, .inl f19)), (q15, .inl (g.2 0, 40, .inl f16)), (q12, .inr (5, [.ref q18, .ref q15])), (q1, .inr (8, [.ref q12, w6, w7, w8, w9, w10, w11]))])) (QV g [(q18, .inl (g.2 0, 384, .inl f19)), (q15, .inl (g.2 0, 40, .inl f16)), (q12, .inr (5, [.ref q18, .ref q15])), (q1, .inr (8, [.ref q12, w6, w7, w8, w9, w10, w11]))] sz (fun _ => [(q1, .inr (8, [.ref q12, w6, w7, w8, w9, w10, w11])), (q18, .inl (g.2 0, 384, .inl (upd (upd (upd f19 49 x2) 50 x3) 51 x4))), (q15, .inl (g.2 0, 40, .inl (upd f16 5 1))), (q12, .inr (5, [.ref q18, .ref q15]))])) 0 0 (va_A [(q18, .inl (g.2 0, 384, .inl f19)), (q15, .inl (g.2 0, 40, .inl f16)), (q12, .inr (5, [.ref q18, .ref q15])), (q1, .inr (8, [.ref q12, w6, w7, w8, w9, w10, w11]))] sz) := by
  refine ofN (by decide) (Nat.le_of_ble_eq_true rfl) rfl ?_
  intro p e s m args below meth c A ls hAe hsz hx hb hml hr hlocks hin hown hE hP hD hA hS hl
  have hown : s.vm.findClass RX9 = some m.cls := hown
  refine lv_aload_n hx hb dX9_putItem_0 rfl (lv_at hl 0 rfl) ?_
  refine gf_RX9_108 hx hb hown hE hP 3 rfl rfl dX9_putItem_1 ?_
  refine lv_iload_n hx hb dX9_putItem_4 rfl (lv_at hl 1 rfl) ?_
  refine lv_iconst (v := 0) hx hb dX9_putItem_5 (by decide) ?_
  refine g_i (wr := [(q18, .inl (g.2 0, 384, .inl f19)), (q1, .inr (8, [.ref q12, w6, w7, w8, w9, w10, w11]))]) (rV (rest := []) hx hb hml hown hE hP hD 2 rfl rfl (c146_X3_figure l g q12 q15 (.ref q18) f16 (hf17) s.heap.size) (kV_X3_figure hE (e668 hE) rfl rfl ⟨(Nat.le_of_ble_eq_true rfl), (Nat.le_of_ble_eq_true rfl)⟩) [1, 2] rfl (by decide) rfl hl.1 rfl (lv_room (Nat.le_of_ble_eq_true rfl)) dX9_putItem_6 ⟨(Nat.le_of_ble_eq_true rfl), (Nat.le_of_ble_eq_true rfl)⟩) hP hD hS hA [1, 2] [0, 3] rfl rfl (by decide) (by decide) (fun u1 H locs hP hD hS => ?_)
  have hP : va_P g.1 vwCl [(q18, .inl (g.2 0, 384, .inl f19)), (q1, .inr (8, [.ref q12, w6, w7, w8, w9, w10, w11])), (q15, .inl (g.2 0, 40, .inl f16)), (q12, .inr (5, [.ref q18, .ref q15]))] H := hP
  have hD : va_D A [(q18, .inl (g.2 0, 384, .inl f19)), (q1, .inr (8, [.ref q12, w6, w7, w8, w9, w10, w11])), (q15, .inl (g.2 0, 40, .inl f16)), (q12, .inr (5, [.ref q18, .ref q15]))] := hD
  refine lv_bipush (v := 12) hx hb dX9_putItem_9 (by decide) ?_
  refine lv_icmp_lt (tgt := 25) hx hb dX9_putItem_11 (by decide) (fun _ => ?_) (fun h => absurd (by decide) h)
  refine lv_aload_n hx hb dX9_putItem_25 rfl (lv_at hl 0 rfl) ?_
  refine gf_RX9_108 hx hb hown hE hP 1 rfl rfl dX9_putItem_26 ?_
  refine lv_iload_n hx hb dX9_putItem_29 rfl (lv_at hl 1 rfl) ?_
  refine lv_iload_n hx hb dX9_putItem_30 rfl (lv_at hl 2 rfl) ?_
  refine lv_iload_n hx hb dX9_putItem_31 rfl (lv_at hl 3 rfl) ?_
  refine lv_iload hx hb dX9_putItem_32 (lv_at hl 4 rfl) ?_
  refine lv_iload hx hb dX9_putItem_34 (lv_at hl 5 rfl) ?_
  refine g_v (wr := [(q1, .inr (8, [.ref q12, w6, w7, w8, w9, w10, w11]))]) (rV (rest := []) hx hb hml hown hE hP hD 3 rfl rfl (c228_X3_putItem l g q12 q15 q18 x2 x3 x4 f16 f19 (hf17) (hf20) H.size) (kV_X3_putItem hE (e685 hE) rfl rfl ⟨(Nat.le_of_ble_eq_true rfl), (Nat.le_of_ble_eq_true rfl)⟩) [0, 2, 3] rfl (by decide) rfl hl.1 rfl (lv_room (Nat.le_of_ble_eq_true rfl)) dX9_putItem_36 ⟨(Nat.le_of_ble_eq_true rfl), (Nat.le_of_ble_eq_true rfl)⟩) hP hD hS hA [0, 2, 3] [1] rfl rfl (by decide) (by decide) (fun u2 H locs hP hD hS => ?_)
  have hP : va_P g.1 vwCl [(q1, .inr (8, [.ref q12, w6, w7, w8, w9, w10, w11])), (q18, .inl (g.2 0, 384, .inl (upd (upd (upd f19 49 x2) 50 x3) 51 x4))), (q15, .inl (g.2 0, 40, .inl (upd f16 5 1))), (q12, .inr (5, [.ref q18, .ref q15]))] H := hP
  have hD : va_D A [(q1, .inr (8, [.ref q12, w6, w7, w8, w9, w10, w11])), (q18, .inl (g.2 0, 384, .inl (upd (upd (upd f19 49 x2) 50 x3) 51 x4))), (q15, .inl (g.2 0, 40, .inl (upd f16 5 1))), (q12, .inr (5, [.ref q18, .ref q15]))] := hD
  exact x_vret hx hb hr hlocks hP hD hS hAe hsz (Nat.le_of_ble_eq_true rfl) (Nat.le_of_ble_eq_true rfl) (fun _ => 0) [0, 1, 2, 3] (by decide) rfl dX9_putItem_39

set_option maxHeartbeats 4000000 in
set_option maxRecDepth 100000 in
theorem c230_X3_putFigure (l : Launch) (g : gG) (q1 q4 : Nat) (w2 : Value) (f5 : Nat → Int32) (hf6 : f5 2 = 0) (sz : Nat) : Met l yX3_putFigure [Cond.code yX3_putFigure cX3_putFigure 5 none] ({ frames := 0, cells := 0, slots := 0, locals := 0 } : Room) (va_Pc [.ref q1, .int 0, .int 2, .int 0] (PX g sz [(q4, .inl (g.2 0, 40, .inl f5)), (q1, .inr (5, [w2, .ref q4]))])) (QV g [(q4, .inl (g.2 0, 40, .inl f5)), (q1, .inr (5, [w2, .ref q4]))] sz (fun _ => [(q4, .inl (g.2 0, 40, .inl f5)), (q1, .inr (5, [w2, .ref q4]))])) 0 0 (va_A [(q4, .inl (g.2 0, 40, .inl f5)), (q1, .inr (5, [w2, .ref q4]))] sz) := by
  refine ofN (by decide) (Nat.le_of_ble_eq_true rfl) rfl ?_
  intro p e s m args below meth c A ls hAe hsz hx hb hml hr hlocks hin hown hE hP hD hA hS hl
  have hown : s.vm.findClass RX3 = some m.cls := hown
  refine lv_iload_n hx hb dX3_putFigure_0 rfl (lv_at hl 1 rfl) ?_
  refine lv_iconst (v := 5) hx hb dX3_putFigure_1 (by decide) ?_
  refine x_imul (v := 0) hx hb dX3_putFigure_2 (by decide) ?_
  refine lv_iload_n hx hb dX3_putFigure_3 rfl (lv_at hl 2 rfl) ?_
  refine x_iadd (v := 2) hx hb dX3_putFigure_4 (by decide) ?_
  refine lv_istore (lv' := [(4, .int 2), (0, .ref q1), (1, .int 0), (2, .int 2), (3, .int 0)]) hx hb dX3_putFigure_5 hl (by decide) rfl (fun ls hl => ?_)
  refine lv_iload hx hb dX3_putFigure_7 (lv_at hl 0 rfl) ?_
  refine lv_if_lt (tgt := 30) hx hb dX3_putFigure_9 (by decide) (fun h => absurd h (by decide)) (fun _ => ?_)
  refine lv_iload hx hb dX3_putFigure_12 (lv_at hl 0 rfl) ?_
  refine lv_aload_n hx hb dX3_putFigure_14 rfl (lv_at hl 1 rfl) ?_
  refine gf_RX3_15 hx hb hown hE hP 1 rfl rfl dX3_putFigure_15 ?_
  refine x_aleni (v := 40) hx hb hE hP 0 rfl rfl dX3_putFigure_18 ?_
  refine lv_icmp_ge (tgt := 30) hx hb dX3_putFigure_19 (by decide) (fun h => absurd h (by decide)) (fun _ => ?_)
  refine lv_aload_n hx hb dX3_putFigure_22 rfl (lv_at hl 1 rfl) ?_
  refine gf_RX3_15 hx hb hown hE hP 1 rfl rfl dX3_putFigure_23 ?_
  refine lv_iload hx hb dX3_putFigure_26 (lv_at hl 0 rfl) ?_
  refine lv_iload_n hx hb dX3_putFigure_28 rfl (lv_at hl 4 rfl) ?_
  refine x_iast_same hx hb hE hP hD hS 0 rfl 2 (x_in (by decide)) (by decide) hf6 dX3_putFigure_29 (fun H locs hP hD hS => ?_)
  exact x_vret hx hb hr hlocks hP hD hS hAe hsz (Nat.le_of_ble_eq_true rfl) (Nat.le_of_ble_eq_true rfl) (fun _ => 0) [0, 1] (by decide) rfl dX3_putFigure_30

set_option maxHeartbeats 4000000 in
set_option maxRecDepth 100000 in
theorem c231_X3_measureOne (l : Launch) (g : gG) (q1 q4 : Nat) (w2 : Value) (f5 : Nat → Int32) (hf6 : f5 0 = 0) (hf7 : f5 2 = 0) (hf8 : f5 3 = 0) (sz : Nat) : Met l yX3_measureOne [Cond.code yX3_measureOne cX3_measureOne 9 none] ({ frames := 1, cells := 0, slots := 0, locals := 24 } : Room) (va_Pc [.ref q1, .int 0] (PX g sz [(q4, .inl (g.2 0, 40, .inl f5)), (q1, .inr (5, [w2, .ref q4]))])) (QV g [(q4, .inl (g.2 0, 40, .inl f5)), (q1, .inr (5, [w2, .ref q4]))] sz (fun _ => [(q4, .inl (g.2 0, 40, .inl (upd (upd f5 1 0) 4 1))), (q1, .inr (5, [w2, .ref q4]))])) 0 0 (va_A [(q4, .inl (g.2 0, 40, .inl f5)), (q1, .inr (5, [w2, .ref q4]))] sz) := by
  refine ofN (by decide) (Nat.le_of_ble_eq_true rfl) rfl ?_
  intro p e s m args below meth c A ls hAe hsz hx hb hml hr hlocks hin hown hE hP hD hA hS hl
  have hown : s.vm.findClass RX3 = some m.cls := hown
  refine lv_iconst (v := 0) hx hb dX3_measureOne_0 (by decide) ?_
  refine lv_istore_n (lv' := [(2, .int 0), (0, .ref q1), (1, .int 0)]) hx hb dX3_measureOne_1 rfl hl (by decide) rfl (fun ls hl => ?_)
  refine lv_iconst (v := 0) hx hb dX3_measureOne_2 (by decide) ?_
  refine lv_istore_n (lv' := [(3, .int 0), (2, .int 0), (0, .ref q1), (1, .int 0)]) hx hb dX3_measureOne_3 rfl hl (by decide) rfl (fun ls hl => ?_)
  refine lv_iconst (v := 0) hx hb dX3_measureOne_4 (by decide) ?_
  refine lv_istore (lv' := [(4, .int 0), (3, .int 0), (2, .int 0), (0, .ref q1), (1, .int 0)]) hx hb dX3_measureOne_5 hl (by decide) rfl (fun ls hl => ?_)
  refine lv_iconst (v := 1) hx hb dX3_measureOne_7 (by decide) ?_
  refine lv_istore (lv' := [(5, .int 1), (4, .int 0), (3, .int 0), (2, .int 0), (0, .ref q1), (1, .int 0)]) hx hb dX3_measureOne_8 hl (by decide) rfl (fun ls hl => ?_)
  refine lv_aload_n hx hb dX3_measureOne_10 rfl (lv_at hl 4 rfl) ?_
  refine lv_iload_n hx hb dX3_measureOne_11 rfl (lv_at hl 5 rfl) ?_
  refine lv_iconst (v := 0) hx hb dX3_measureOne_12 (by decide) ?_
  refine g_i (wr := []) (rV (rest := []) hx hb hml hown hE hP hD 1 rfl rfl (c128_X3_figure l g q1 q4 w2 f5 (hf6) s.heap.size) (kV_X3_figure hE (e343 hE) rfl rfl ⟨(Nat.le_of_ble_eq_true rfl), (Nat.le_of_ble_eq_true rfl)⟩) [0, 1] rfl (by decide) rfl hl.1 rfl (lv_room (Nat.le_of_ble_eq_true rfl)) dX3_measureOne_13 ⟨(Nat.le_of_ble_eq_true rfl), (Nat.le_of_ble_eq_true rfl)⟩) hP hD hS hA [0, 1] [] rfl rfl (by decide) (by decide) (fun u1 H locs hP hD hS => ?_)
  have hP : va_P g.1 vwCl [(q4, .inl (g.2 0, 40, .inl f5)), (q1, .inr (5, [w2, .ref q4]))] H := hP
  have hD : va_D A [(q4, .inl (g.2 0, 40, .inl f5)), (q1, .inr (5, [w2, .ref q4]))] := hD
  refine lv_istore (lv' := [(6, .int 0), (5, .int 1), (4, .int 0), (3, .int 0), (2, .int 0), (0, .ref q1), (1, .int 0)]) hx hb dX3_measureOne_16 hl (by decide) rfl (fun ls hl => ?_)
  refine lv_iconst (v := 0) hx hb dX3_measureOne_18 (by decide) ?_
  refine lv_istore (lv' := [(7, .int 0), (6, .int 0), (5, .int 1), (4, .int 0), (3, .int 0), (2, .int 0), (0, .ref q1), (1, .int 0)]) hx hb dX3_measureOne_19 hl (by decide) rfl (fun ls hl => ?_)
  refine lv_iload hx hb dX3_measureOne_21 (lv_at hl 0 rfl) ?_
  refine lv_iload hx hb dX3_measureOne_23 (lv_at hl 1 rfl) ?_
  refine lv_icmp_ge (tgt := 109) hx hb dX3_measureOne_25 (by decide) (fun _ => ?_) (fun h => absurd (by decide) h)
  refine lv_aload_n hx hb dX3_measureOne_109 rfl (lv_at hl 6 rfl) ?_
  refine lv_iload_n hx hb dX3_measureOne_110 rfl (lv_at hl 7 rfl) ?_
  refine lv_iconst (v := 1) hx hb dX3_measureOne_111 (by decide) ?_
  refine lv_iload_n hx hb dX3_measureOne_112 rfl (lv_at hl 5 rfl) ?_
  refine g_v (wr := []) (rV (rest := []) hx hb hml hown hE hP hD 1 rfl rfl (c141_X3_putFigure l g q1 q4 0 w2 f5 H.size) (kV_X3_putFigure hE (e91 hE) rfl rfl ⟨(Nat.le_of_ble_eq_true rfl), (Nat.le_of_ble_eq_true rfl)⟩) [0, 1] rfl (by decide) rfl hl.1 rfl (lv_room (Nat.le_of_ble_eq_true rfl)) dX3_measureOne_113 ⟨(Nat.le_of_ble_eq_true rfl), (Nat.le_of_ble_eq_true rfl)⟩) hP hD hS hA [0, 1] [] rfl rfl (by decide) (by decide) (fun u2 H locs hP hD hS => ?_)
  have hP : va_P g.1 vwCl [(q4, .inl (g.2 0, 40, .inl (upd f5 1 0))), (q1, .inr (5, [w2, .ref q4]))] H := hP
  have hD : va_D A [(q4, .inl (g.2 0, 40, .inl (upd f5 1 0))), (q1, .inr (5, [w2, .ref q4]))] := hD
  refine lv_aload_n hx hb dX3_measureOne_116 rfl (lv_at hl 6 rfl) ?_
  refine lv_iload_n hx hb dX3_measureOne_117 rfl (lv_at hl 7 rfl) ?_
  refine lv_iconst (v := 2) hx hb dX3_measureOne_118 (by decide) ?_
  refine lv_iload_n hx hb dX3_measureOne_119 rfl (lv_at hl 4 rfl) ?_
  refine g_v (wr := []) (rV (rest := []) hx hb hml hown hE hP hD 1 rfl rfl (c230_X3_putFigure l g q1 q4 w2 (upd f5 1 0) (((pk_un (by decide)).trans hf7)) H.size) (kV_X3_putFigure hE (e91 hE) rfl rfl ⟨(Nat.le_of_ble_eq_true rfl), (Nat.le_of_ble_eq_true rfl)⟩) [0, 1] rfl (by decide) rfl hl.1 rfl (lv_room (Nat.le_of_ble_eq_true rfl)) dX3_measureOne_120 ⟨(Nat.le_of_ble_eq_true rfl), (Nat.le_of_ble_eq_true rfl)⟩) hP hD hS hA [0, 1] [] rfl rfl (by decide) (by decide) (fun u3 H locs hP hD hS => ?_)
  have hP : va_P g.1 vwCl [(q4, .inl (g.2 0, 40, .inl (upd f5 1 0))), (q1, .inr (5, [w2, .ref q4]))] H := hP
  have hD : va_D A [(q4, .inl (g.2 0, 40, .inl (upd f5 1 0))), (q1, .inr (5, [w2, .ref q4]))] := hD
  refine lv_aload_n hx hb dX3_measureOne_123 rfl (lv_at hl 6 rfl) ?_
  refine lv_iload_n hx hb dX3_measureOne_124 rfl (lv_at hl 7 rfl) ?_
  refine lv_iconst (v := 3) hx hb dX3_measureOne_125 (by decide) ?_
  refine lv_iload hx hb dX3_measureOne_126 (lv_at hl 3 rfl) ?_
  refine g_v (wr := []) (rV (rest := []) hx hb hml hown hE hP hD 1 rfl rfl (c143_X3_putFigure l g q1 q4 w2 (upd f5 1 0) (((pk_un (by decide)).trans hf8)) H.size) (kV_X3_putFigure hE (e91 hE) rfl rfl ⟨(Nat.le_of_ble_eq_true rfl), (Nat.le_of_ble_eq_true rfl)⟩) [0, 1] rfl (by decide) rfl hl.1 rfl (lv_room (Nat.le_of_ble_eq_true rfl)) dX3_measureOne_128 ⟨(Nat.le_of_ble_eq_true rfl), (Nat.le_of_ble_eq_true rfl)⟩) hP hD hS hA [0, 1] [] rfl rfl (by decide) (by decide) (fun u4 H locs hP hD hS => ?_)
  have hP : va_P g.1 vwCl [(q4, .inl (g.2 0, 40, .inl (upd f5 1 0))), (q1, .inr (5, [w2, .ref q4]))] H := hP
  have hD : va_D A [(q4, .inl (g.2 0, 40, .inl (upd f5 1 0))), (q1, .inr (5, [w2, .ref q4]))] := hD
  refine lv_aload_n hx hb dX3_measureOne_131 rfl (lv_at hl 6 rfl) ?_
  refine lv_iload_n hx hb dX3_measureOne_132 rfl (lv_at hl 7 rfl) ?_
  refine lv_iconst (v := 4) hx hb dX3_measureOne_133 (by decide) ?_
  refine lv_iload hx hb dX3_measureOne_134 (lv_at hl 2 rfl) ?_
  refine g_v (wr := []) (rV (rest := []) hx hb hml hown hE hP hD 1 rfl rfl (c3_X3_putFigure l g q1 q4 w2 (upd f5 1 0) H.size) (kV_X3_putFigure hE (e91 hE) rfl rfl ⟨(Nat.le_of_ble_eq_true rfl), (Nat.le_of_ble_eq_true rfl)⟩) [0, 1] rfl (by decide) rfl hl.1 rfl (lv_room (Nat.le_of_ble_eq_true rfl)) dX3_measureOne_136 ⟨(Nat.le_of_ble_eq_true rfl), (Nat.le_of_ble_eq_true rfl)⟩) hP hD hS hA [0, 1] [] rfl rfl (by decide) (by decide) (fun u5 H locs hP hD hS => ?_)
  have hP : va_P g.1 vwCl [(q4, .inl (g.2 0, 40, .inl (upd (upd f5 1 0) 4 1))), (q1, .inr (5, [w2, .ref q4]))] H := hP
  have hD : va_D A [(q4, .inl (g.2 0, 40, .inl (upd (upd f5 1 0) 4 1))), (q1, .inr (5, [w2, .ref q4]))] := hD
  exact x_vret hx hb hr hlocks hP hD hS hAe hsz (Nat.le_of_ble_eq_true rfl) (Nat.le_of_ble_eq_true rfl) (fun _ => 0) [0, 1] (by decide) rfl dX3_measureOne_139

set_option maxHeartbeats 4000000 in
set_option maxRecDepth 100000 in
theorem c232_X3_figure (l : Launch) (g : gG) (q1 q4 : Nat) (w2 : Value) (f5 : Nat → Int32) (hf6 : f5 5 = 1) (sz : Nat) : Met l yX3_figure [Cond.code yX3_figure cX3_figure 4 (some .int)] ({ frames := 0, cells := 0, slots := 0, locals := 0 } : Room) (va_Pc [.ref q1, .int 1, .int 0] (PX g sz [(q4, .inl (g.2 0, 40, .inl f5)), (q1, .inr (5, [w2, .ref q4]))])) (QI g [(q4, .inl (g.2 0, 40, .inl f5)), (q1, .inr (5, [w2, .ref q4]))] sz 1 (fun _ => [(q4, .inl (g.2 0, 40, .inl f5)), (q1, .inr (5, [w2, .ref q4]))])) 0 0 (va_A [(q4, .inl (g.2 0, 40, .inl f5)), (q1, .inr (5, [w2, .ref q4]))] sz) := by
  refine ofN (by decide) (Nat.le_of_ble_eq_true rfl) rfl ?_
  intro p e s m args below meth c A ls hAe hsz hx hb hml hr hlocks hin hown hE hP hD hA hS hl
  have hown : s.vm.findClass RX3 = some m.cls := hown
  refine lv_iload_n hx hb dX3_figure_0 rfl (lv_at hl 1 rfl) ?_
  refine lv_iconst (v := 5) hx hb dX3_figure_1 (by decide) ?_
  refine x_imul (v := 5) hx hb dX3_figure_2 (by decide) ?_
  refine lv_iload_n hx hb dX3_figure_3 rfl (lv_at hl 2 rfl) ?_
  refine x_iadd (v := 5) hx hb dX3_figure_4 (by decide) ?_
  refine lv_istore_n (lv' := [(3, .int 5), (0, .ref q1), (1, .int 1), (2, .int 0)]) hx hb dX3_figure_5 rfl hl (by decide) rfl (fun ls hl => ?_)
  refine lv_iload_n hx hb dX3_figure_6 rfl (lv_at hl 0 rfl) ?_
  refine lv_if_lt (tgt := 28) hx hb dX3_figure_7 (by decide) (fun h => absurd h (by decide)) (fun _ => ?_)
  refine lv_iload_n hx hb dX3_figure_10 rfl (lv_at hl 0 rfl) ?_
  refine lv_aload_n hx hb dX3_figure_11 rfl (lv_at hl 1 rfl) ?_
  refine gf_RX3_15 hx hb hown hE hP 1 rfl rfl dX3_figure_12 ?_
  refine x_aleni (v := 40) hx hb hE hP 0 rfl rfl dX3_figure_15 ?_
  refine lv_icmp_ge (tgt := 28) hx hb dX3_figure_16 (by decide) (fun h => absurd h (by decide)) (fun _ => ?_)
  refine lv_aload_n hx hb dX3_figure_19 rfl (lv_at hl 1 rfl) ?_
  refine gf_RX3_15 hx hb hown hE hP 1 rfl rfl dX3_figure_20 ?_
  refine lv_iload_n hx hb dX3_figure_23 rfl (lv_at hl 0 rfl) ?_
  refine x_iald (v := 1) hx hb hE hP 0 rfl 5 (x_in (by decide)) (by decide) hf6 dX3_figure_24 ?_
  refine lv_goto (tgt := 29) hx hb dX3_figure_25 (by decide) ?_
  exact x_zret hx hb hr rfl rfl hlocks hP hD hS hAe hsz (Nat.le_of_ble_eq_true rfl) (Nat.le_of_ble_eq_true rfl) (fun _ => 0) [0, 1] (by decide) rfl dX3_figure_29

set_option maxHeartbeats 4000000 in
set_option maxRecDepth 100000 in
theorem c233_X3_itemNumber (l : Launch) (g : gG) (q1 q4 : Nat) (x7 : Int32) (w3 : Value) (f5 : Nat → Int32) (hf6 : f5 50 = x7) (sz : Nat) : Met l yX3_itemNumber [Cond.code yX3_itemNumber cX3_itemNumber 5 (some .int)] ({ frames := 0, cells := 0, slots := 0, locals := 0 } : Room) (va_Pc [.ref q1, .int 1, .int 0, .int 2] (PX g sz [(q4, .inl (g.2 0, 384, .inl f5)), (q1, .inr (5, [.ref q4, w3]))])) (QI g [(q4, .inl (g.2 0, 384, .inl f5)), (q1, .inr (5, [.ref q4, w3]))] sz x7 (fun _ => [(q4, .inl (g.2 0, 384, .inl f5)), (q1, .inr (5, [.ref q4, w3]))])) 0 0 (va_A [(q4, .inl (g.2 0, 384, .inl f5)), (q1, .inr (5, [.ref q4, w3]))] sz) := by
  refine ofN (by decide) (Nat.le_of_ble_eq_true rfl) rfl ?_
  intro p e s m args below meth c A ls hAe hsz hx hb hml hr hlocks hin hown hE hP hD hA hS hl
  have hown : s.vm.findClass RX3 = some m.cls := hown
  refine lv_iload_n hx hb dX3_itemNumber_0 rfl (lv_at hl 1 rfl) ?_
  refine lv_bipush (v := 12) hx hb dX3_itemNumber_1 (by decide) ?_
  refine x_imul (v := 12) hx hb dX3_itemNumber_3 (by decide) ?_
  refine lv_iload_n hx hb dX3_itemNumber_4 rfl (lv_at hl 2 rfl) ?_
  refine x_iadd (v := 12) hx hb dX3_itemNumber_5 (by decide) ?_
  refine lv_iconst (v := 4) hx hb dX3_itemNumber_6 (by decide) ?_
  refine x_imul (v := 48) hx hb dX3_itemNumber_7 (by decide) ?_
  refine lv_iload_n hx hb dX3_itemNumber_8 rfl (lv_at hl 3 rfl) ?_
  refine x_iadd (v := 50) hx hb dX3_itemNumber_9 (by decide) ?_
  refine lv_istore (lv' := [(4, .int 50), (0, .ref q1), (1, .int 1), (2, .int 0), (3, .int 2)]) hx hb dX3_itemNumber_10 hl (by decide) rfl (fun ls hl => ?_)
  refine lv_iload hx hb dX3_itemNumber_12 (lv_at hl 0 rfl) ?_
  refine lv_if_lt (tgt := 37) hx hb dX3_itemNumber_14 (by decide) (fun h => absurd h (by decide)) (fun _ => ?_)
  refine lv_iload hx hb dX3_itemNumber_17 (lv_at hl 0 rfl) ?_
  refine lv_aload_n hx hb dX3_itemNumber_19 rfl (lv_at hl 1 rfl) ?_
  refine gf_RX3_9 hx hb hown hE hP 1 rfl rfl dX3_itemNumber_20 ?_
  refine x_aleni (v := 384) hx hb hE hP 0 rfl rfl dX3_itemNumber_23 ?_
  refine lv_icmp_ge (tgt := 37) hx hb dX3_itemNumber_24 (by decide) (fun h => absurd h (by decide)) (fun _ => ?_)
  refine lv_aload_n hx hb dX3_itemNumber_27 rfl (lv_at hl 1 rfl) ?_
  refine gf_RX3_9 hx hb hown hE hP 1 rfl rfl dX3_itemNumber_28 ?_
  refine lv_iload hx hb dX3_itemNumber_31 (lv_at hl 0 rfl) ?_
  refine x_iald (v := x7) hx hb hE hP 0 rfl 50 (x_in (by decide)) (by decide) hf6 dX3_itemNumber_33 ?_
  refine lv_goto (tgt := 38) hx hb dX3_itemNumber_34 (by decide) ?_
  exact x_zret hx hb hr rfl rfl hlocks hP hD hS hAe hsz (Nat.le_of_ble_eq_true rfl) (Nat.le_of_ble_eq_true rfl) (fun _ => 0) [0, 1] (by decide) rfl dX3_itemNumber_38

set_option maxHeartbeats 4000000 in
set_option maxRecDepth 100000 in
theorem c234_X3_itemNumber (l : Launch) (g : gG) (q1 q4 : Nat) (w3 : Value) (f5 : Nat → Int32) (hf6 : f5 48 = 0) (sz : Nat) : Met l yX3_itemNumber [Cond.code yX3_itemNumber cX3_itemNumber 5 (some .int)] ({ frames := 0, cells := 0, slots := 0, locals := 0 } : Room) (va_Pc [.ref q1, .int 1, .int 0, .int 0] (PX g sz [(q4, .inl (g.2 0, 384, .inl f5)), (q1, .inr (5, [.ref q4, w3]))])) (QI g [(q4, .inl (g.2 0, 384, .inl f5)), (q1, .inr (5, [.ref q4, w3]))] sz 0 (fun _ => [(q4, .inl (g.2 0, 384, .inl f5)), (q1, .inr (5, [.ref q4, w3]))])) 0 0 (va_A [(q4, .inl (g.2 0, 384, .inl f5)), (q1, .inr (5, [.ref q4, w3]))] sz) := by
  refine ofN (by decide) (Nat.le_of_ble_eq_true rfl) rfl ?_
  intro p e s m args below meth c A ls hAe hsz hx hb hml hr hlocks hin hown hE hP hD hA hS hl
  have hown : s.vm.findClass RX3 = some m.cls := hown
  refine lv_iload_n hx hb dX3_itemNumber_0 rfl (lv_at hl 1 rfl) ?_
  refine lv_bipush (v := 12) hx hb dX3_itemNumber_1 (by decide) ?_
  refine x_imul (v := 12) hx hb dX3_itemNumber_3 (by decide) ?_
  refine lv_iload_n hx hb dX3_itemNumber_4 rfl (lv_at hl 2 rfl) ?_
  refine x_iadd (v := 12) hx hb dX3_itemNumber_5 (by decide) ?_
  refine lv_iconst (v := 4) hx hb dX3_itemNumber_6 (by decide) ?_
  refine x_imul (v := 48) hx hb dX3_itemNumber_7 (by decide) ?_
  refine lv_iload_n hx hb dX3_itemNumber_8 rfl (lv_at hl 3 rfl) ?_
  refine x_iadd (v := 48) hx hb dX3_itemNumber_9 (by decide) ?_
  refine lv_istore (lv' := [(4, .int 48), (0, .ref q1), (1, .int 1), (2, .int 0), (3, .int 0)]) hx hb dX3_itemNumber_10 hl (by decide) rfl (fun ls hl => ?_)
  refine lv_iload hx hb dX3_itemNumber_12 (lv_at hl 0 rfl) ?_
  refine lv_if_lt (tgt := 37) hx hb dX3_itemNumber_14 (by decide) (fun h => absurd h (by decide)) (fun _ => ?_)
  refine lv_iload hx hb dX3_itemNumber_17 (lv_at hl 0 rfl) ?_
  refine lv_aload_n hx hb dX3_itemNumber_19 rfl (lv_at hl 1 rfl) ?_
  refine gf_RX3_9 hx hb hown hE hP 1 rfl rfl dX3_itemNumber_20 ?_
  refine x_aleni (v := 384) hx hb hE hP 0 rfl rfl dX3_itemNumber_23 ?_
  refine lv_icmp_ge (tgt := 37) hx hb dX3_itemNumber_24 (by decide) (fun h => absurd h (by decide)) (fun _ => ?_)
  refine lv_aload_n hx hb dX3_itemNumber_27 rfl (lv_at hl 1 rfl) ?_
  refine gf_RX3_9 hx hb hown hE hP 1 rfl rfl dX3_itemNumber_28 ?_
  refine lv_iload hx hb dX3_itemNumber_31 (lv_at hl 0 rfl) ?_
  refine x_iald (v := 0) hx hb hE hP 0 rfl 48 (x_in (by decide)) (by decide) hf6 dX3_itemNumber_33 ?_
  refine lv_goto (tgt := 38) hx hb dX3_itemNumber_34 (by decide) ?_
  exact x_zret hx hb hr rfl rfl hlocks hP hD hS hAe hsz (Nat.le_of_ble_eq_true rfl) (Nat.le_of_ble_eq_true rfl) (fun _ => 0) [0, 1] (by decide) rfl dX3_itemNumber_38

set_option maxHeartbeats 4000000 in
set_option maxRecDepth 100000 in
theorem c235_X3_lengthOf (l : Launch) (g : gG) (q1 q4 : Nat) (x7 : Int32) (w3 : Value) (f5 : Nat → Int32) (hf6 : f5 50 = x7) (hf8 : f5 48 = 0) (sz : Nat) : Met l yX3_lengthOf [Cond.code yX3_lengthOf cX3_lengthOf 4 (some .int)] ({ frames := 1, cells := 0, slots := 0, locals := 24 } : Room) (va_Pc [.ref q1, .int 1, .int 0] (PX g sz [(q4, .inl (g.2 0, 384, .inl f5)), (q1, .inr (5, [.ref q4, w3]))])) (QI g [(q4, .inl (g.2 0, 384, .inl f5)), (q1, .inr (5, [.ref q4, w3]))] sz x7 (fun _ => [(q4, .inl (g.2 0, 384, .inl f5)), (q1, .inr (5, [.ref q4, w3]))])) 0 0 (va_A [(q4, .inl (g.2 0, 384, .inl f5)), (q1, .inr (5, [.ref q4, w3]))] sz) := by
  refine ofN (by decide) (Nat.le_of_ble_eq_true rfl) rfl ?_
  intro p e s m args below meth c A ls hAe hsz hx hb hml hr hlocks hin hown hE hP hD hA hS hl
  have hown : s.vm.findClass RX3 = some m.cls := hown
  refine lv_aload_n hx hb dX3_lengthOf_0 rfl (lv_at hl 0 rfl) ?_
  refine lv_iload_n hx hb dX3_lengthOf_1 rfl (lv_at hl 1 rfl) ?_
  refine lv_iload_n hx hb dX3_lengthOf_2 rfl (lv_at hl 2 rfl) ?_
  refine lv_iconst (v := 2) hx hb dX3_lengthOf_3 (by decide) ?_
  refine g_i (wr := []) (rV (rest := []) hx hb hml hown hE hP hD 1 rfl rfl (c233_X3_itemNumber l g q1 q4 x7 w3 f5 (hf6) s.heap.size) (kV_X3_itemNumber hE (e348 hE) rfl rfl ⟨(Nat.le_of_ble_eq_true rfl), (Nat.le_of_ble_eq_true rfl)⟩) [0, 1] rfl (by decide) rfl hl.1 rfl (lv_room (Nat.le_of_ble_eq_true rfl)) dX3_lengthOf_4 ⟨(Nat.le_of_ble_eq_true rfl), (Nat.le_of_ble_eq_true rfl)⟩) hP hD hS hA [0, 1] [] rfl rfl (by decide) (by decide) (fun u1 H locs hP hD hS => ?_)
  have hP : va_P g.1 vwCl [(q4, .inl (g.2 0, 384, .inl f5)), (q1, .inr (5, [.ref q4, w3]))] H := hP
  have hD : va_D A [(q4, .inl (g.2 0, 384, .inl f5)), (q1, .inr (5, [.ref q4, w3]))] := hD
  refine lv_istore_n (lv' := [(3, .int x7), (0, .ref q1), (1, .int 1), (2, .int 0)]) hx hb dX3_lengthOf_7 rfl hl (by decide) rfl (fun ls hl => ?_)
  refine lv_aload_n hx hb dX3_lengthOf_8 rfl (lv_at hl 1 rfl) ?_
  refine lv_iload_n hx hb dX3_lengthOf_9 rfl (lv_at hl 2 rfl) ?_
  refine lv_iload_n hx hb dX3_lengthOf_10 rfl (lv_at hl 3 rfl) ?_
  refine lv_iconst (v := 0) hx hb dX3_lengthOf_11 (by decide) ?_
  refine g_i (wr := []) (rV (rest := []) hx hb hml hown hE hP hD 1 rfl rfl (c234_X3_itemNumber l g q1 q4 w3 f5 (hf8) H.size) (kV_X3_itemNumber hE (e348 hE) rfl rfl ⟨(Nat.le_of_ble_eq_true rfl), (Nat.le_of_ble_eq_true rfl)⟩) [0, 1] rfl (by decide) rfl hl.1 rfl (lv_room (Nat.le_of_ble_eq_true rfl)) dX3_lengthOf_12 ⟨(Nat.le_of_ble_eq_true rfl), (Nat.le_of_ble_eq_true rfl)⟩) hP hD hS hA [0, 1] [] rfl rfl (by decide) (by decide) (fun u2 H locs hP hD hS => ?_)
  have hP : va_P g.1 vwCl [(q4, .inl (g.2 0, 384, .inl f5)), (q1, .inr (5, [.ref q4, w3]))] H := hP
  have hD : va_D A [(q4, .inl (g.2 0, 384, .inl f5)), (q1, .inr (5, [.ref q4, w3]))] := hD
  refine lv_iconst (v := 2) hx hb dX3_lengthOf_15 (by decide) ?_
  refine lv_icmp_ne (tgt := 34) hx hb dX3_lengthOf_16 (by decide) (fun _ => ?_) (fun h => absurd h (by decide))
  refine lv_iload_n hx hb dX3_lengthOf_34 rfl (lv_at hl 0 rfl) ?_
  exact x_zret hx hb hr rfl rfl hlocks hP hD hS hAe hsz (Nat.le_of_ble_eq_true rfl) (Nat.le_of_ble_eq_true rfl) (fun _ => 0) [0, 1] (by decide) rfl dX3_lengthOf_35

set_option maxHeartbeats 4000000 in
set_option maxRecDepth 100000 in
theorem c236_X3_notesOf (l : Launch) (g : gG) (q1 q4 : Nat) (w3 : Value) (f5 : Nat → Int32) (hf6 : f5 48 = 0) (sz : Nat) : Met l yX3_notesOf [Cond.code yX3_notesOf cX3_notesOf 4 (some .int)] ({ frames := 1, cells := 0, slots := 0, locals := 24 } : Room) (va_Pc [.ref q1, .int 1, .int 0] (PX g sz [(q4, .inl (g.2 0, 384, .inl f5)), (q1, .inr (5, [.ref q4, w3]))])) (QI g [(q4, .inl (g.2 0, 384, .inl f5)), (q1, .inr (5, [.ref q4, w3]))] sz 1 (fun _ => [(q4, .inl (g.2 0, 384, .inl f5)), (q1, .inr (5, [.ref q4, w3]))])) 0 0 (va_A [(q4, .inl (g.2 0, 384, .inl f5)), (q1, .inr (5, [.ref q4, w3]))] sz) := by
  refine ofN (by decide) (Nat.le_of_ble_eq_true rfl) rfl ?_
  intro p e s m args below meth c A ls hAe hsz hx hb hml hr hlocks hin hown hE hP hD hA hS hl
  have hown : s.vm.findClass RX3 = some m.cls := hown
  refine lv_aload_n hx hb dX3_notesOf_0 rfl (lv_at hl 0 rfl) ?_
  refine lv_iload_n hx hb dX3_notesOf_1 rfl (lv_at hl 1 rfl) ?_
  refine lv_iload_n hx hb dX3_notesOf_2 rfl (lv_at hl 2 rfl) ?_
  refine lv_iconst (v := 0) hx hb dX3_notesOf_3 (by decide) ?_
  refine g_i (wr := []) (rV (rest := []) hx hb hml hown hE hP hD 1 rfl rfl (c234_X3_itemNumber l g q1 q4 w3 f5 (hf6) s.heap.size) (kV_X3_itemNumber hE (e348 hE) rfl rfl ⟨(Nat.le_of_ble_eq_true rfl), (Nat.le_of_ble_eq_true rfl)⟩) [0, 1] rfl (by decide) rfl hl.1 rfl (lv_room (Nat.le_of_ble_eq_true rfl)) dX3_notesOf_4 ⟨(Nat.le_of_ble_eq_true rfl), (Nat.le_of_ble_eq_true rfl)⟩) hP hD hS hA [0, 1] [] rfl rfl (by decide) (by decide) (fun u1 H locs hP hD hS => ?_)
  have hP : va_P g.1 vwCl [(q4, .inl (g.2 0, 384, .inl f5)), (q1, .inr (5, [.ref q4, w3]))] H := hP
  have hD : va_D A [(q4, .inl (g.2 0, 384, .inl f5)), (q1, .inr (5, [.ref q4, w3]))] := hD
  refine lv_istore_n (lv' := [(3, .int 0), (0, .ref q1), (1, .int 1), (2, .int 0)]) hx hb dX3_notesOf_7 rfl hl (by decide) rfl (fun ls hl => ?_)
  refine lv_iload_n hx hb dX3_notesOf_8 rfl (lv_at hl 0 rfl) ?_
  refine lv_iconst (v := 2) hx hb dX3_notesOf_9 (by decide) ?_
  refine lv_icmp_ne (tgt := 34) hx hb dX3_notesOf_10 (by decide) (fun _ => ?_) (fun h => absurd h (by decide))
  refine lv_iload_n hx hb dX3_notesOf_34 rfl (lv_at hl 0 rfl) ?_
  refine lv_if_ne (tgt := 42) hx hb dX3_notesOf_35 (by decide) (fun h => absurd h (by decide)) (fun _ => ?_)
  refine lv_iconst (v := 1) hx hb dX3_notesOf_38 (by decide) ?_
  refine lv_goto (tgt := 43) hx hb dX3_notesOf_39 (by decide) ?_
  exact x_zret hx hb hr rfl rfl hlocks hP hD hS hAe hsz (Nat.le_of_ble_eq_true rfl) (Nat.le_of_ble_eq_true rfl) (fun _ => 0) [0, 1] (by decide) rfl dX3_notesOf_43

set_option maxHeartbeats 4000000 in
set_option maxRecDepth 100000 in
theorem c237_X3_putFigure (l : Launch) (g : gG) (q1 q5 : Nat) (x2 : Int32) (w3 : Value) (f6 : Nat → Int32) (sz : Nat) : Met l yX3_putFigure [Cond.code yX3_putFigure cX3_putFigure 5 none] ({ frames := 0, cells := 0, slots := 0, locals := 0 } : Room) (va_Pc [.ref q1, .int 1, .int 1, .int x2] (PX g sz [(q5, .inl (g.2 0, 40, .inl f6)), (q1, .inr (5, [w3, .ref q5]))])) (QV g [(q5, .inl (g.2 0, 40, .inl f6)), (q1, .inr (5, [w3, .ref q5]))] sz (fun _ => [(q5, .inl (g.2 0, 40, .inl (upd f6 6 x2))), (q1, .inr (5, [w3, .ref q5]))])) 0 0 (va_A [(q5, .inl (g.2 0, 40, .inl f6)), (q1, .inr (5, [w3, .ref q5]))] sz) := by
  refine ofN (by decide) (Nat.le_of_ble_eq_true rfl) rfl ?_
  intro p e s m args below meth c A ls hAe hsz hx hb hml hr hlocks hin hown hE hP hD hA hS hl
  have hown : s.vm.findClass RX3 = some m.cls := hown
  refine lv_iload_n hx hb dX3_putFigure_0 rfl (lv_at hl 1 rfl) ?_
  refine lv_iconst (v := 5) hx hb dX3_putFigure_1 (by decide) ?_
  refine x_imul (v := 5) hx hb dX3_putFigure_2 (by decide) ?_
  refine lv_iload_n hx hb dX3_putFigure_3 rfl (lv_at hl 2 rfl) ?_
  refine x_iadd (v := 6) hx hb dX3_putFigure_4 (by decide) ?_
  refine lv_istore (lv' := [(4, .int 6), (0, .ref q1), (1, .int 1), (2, .int 1), (3, .int x2)]) hx hb dX3_putFigure_5 hl (by decide) rfl (fun ls hl => ?_)
  refine lv_iload hx hb dX3_putFigure_7 (lv_at hl 0 rfl) ?_
  refine lv_if_lt (tgt := 30) hx hb dX3_putFigure_9 (by decide) (fun h => absurd h (by decide)) (fun _ => ?_)
  refine lv_iload hx hb dX3_putFigure_12 (lv_at hl 0 rfl) ?_
  refine lv_aload_n hx hb dX3_putFigure_14 rfl (lv_at hl 1 rfl) ?_
  refine gf_RX3_15 hx hb hown hE hP 1 rfl rfl dX3_putFigure_15 ?_
  refine x_aleni (v := 40) hx hb hE hP 0 rfl rfl dX3_putFigure_18 ?_
  refine lv_icmp_ge (tgt := 30) hx hb dX3_putFigure_19 (by decide) (fun h => absurd h (by decide)) (fun _ => ?_)
  refine lv_aload_n hx hb dX3_putFigure_22 rfl (lv_at hl 1 rfl) ?_
  refine gf_RX3_15 hx hb hown hE hP 1 rfl rfl dX3_putFigure_23 ?_
  refine lv_iload hx hb dX3_putFigure_26 (lv_at hl 0 rfl) ?_
  refine lv_iload_n hx hb dX3_putFigure_28 rfl (lv_at hl 4 rfl) ?_
  refine x_iast (ws' := [(q5, .inl (g.2 0, 40, .inl (upd f6 6 x2))), (q1, .inr (5, [w3, .ref q5]))]) hx hb hE hP hD hS 0 rfl 6 (x_in (by decide)) (by decide) dX3_putFigure_29 rfl (fun H locs hP hD hS => ?_)
  exact x_vret hx hb hr hlocks hP hD hS hAe hsz (Nat.le_of_ble_eq_true rfl) (Nat.le_of_ble_eq_true rfl) (fun _ => 0) [0, 1] (by decide) rfl dX3_putFigure_30

set_option maxHeartbeats 4000000 in
set_option maxRecDepth 100000 in
theorem c238_X3_putFigure (l : Launch) (g : gG) (q1 q4 : Nat) (w2 : Value) (f5 : Nat → Int32) (sz : Nat) : Met l yX3_putFigure [Cond.code yX3_putFigure cX3_putFigure 5 none] ({ frames := 0, cells := 0, slots := 0, locals := 0 } : Room) (va_Pc [.ref q1, .int 1, .int 2, .int 1] (PX g sz [(q4, .inl (g.2 0, 40, .inl f5)), (q1, .inr (5, [w2, .ref q4]))])) (QV g [(q4, .inl (g.2 0, 40, .inl f5)), (q1, .inr (5, [w2, .ref q4]))] sz (fun _ => [(q4, .inl (g.2 0, 40, .inl (upd f5 7 1))), (q1, .inr (5, [w2, .ref q4]))])) 0 0 (va_A [(q4, .inl (g.2 0, 40, .inl f5)), (q1, .inr (5, [w2, .ref q4]))] sz) := by
  refine ofN (by decide) (Nat.le_of_ble_eq_true rfl) rfl ?_
  intro p e s m args below meth c A ls hAe hsz hx hb hml hr hlocks hin hown hE hP hD hA hS hl
  have hown : s.vm.findClass RX3 = some m.cls := hown
  refine lv_iload_n hx hb dX3_putFigure_0 rfl (lv_at hl 1 rfl) ?_
  refine lv_iconst (v := 5) hx hb dX3_putFigure_1 (by decide) ?_
  refine x_imul (v := 5) hx hb dX3_putFigure_2 (by decide) ?_
  refine lv_iload_n hx hb dX3_putFigure_3 rfl (lv_at hl 2 rfl) ?_
  refine x_iadd (v := 7) hx hb dX3_putFigure_4 (by decide) ?_
  refine lv_istore (lv' := [(4, .int 7), (0, .ref q1), (1, .int 1), (2, .int 2), (3, .int 1)]) hx hb dX3_putFigure_5 hl (by decide) rfl (fun ls hl => ?_)
  refine lv_iload hx hb dX3_putFigure_7 (lv_at hl 0 rfl) ?_
  refine lv_if_lt (tgt := 30) hx hb dX3_putFigure_9 (by decide) (fun h => absurd h (by decide)) (fun _ => ?_)
  refine lv_iload hx hb dX3_putFigure_12 (lv_at hl 0 rfl) ?_
  refine lv_aload_n hx hb dX3_putFigure_14 rfl (lv_at hl 1 rfl) ?_
  refine gf_RX3_15 hx hb hown hE hP 1 rfl rfl dX3_putFigure_15 ?_
  refine x_aleni (v := 40) hx hb hE hP 0 rfl rfl dX3_putFigure_18 ?_
  refine lv_icmp_ge (tgt := 30) hx hb dX3_putFigure_19 (by decide) (fun h => absurd h (by decide)) (fun _ => ?_)
  refine lv_aload_n hx hb dX3_putFigure_22 rfl (lv_at hl 1 rfl) ?_
  refine gf_RX3_15 hx hb hown hE hP 1 rfl rfl dX3_putFigure_23 ?_
  refine lv_iload hx hb dX3_putFigure_26 (lv_at hl 0 rfl) ?_
  refine lv_iload_n hx hb dX3_putFigure_28 rfl (lv_at hl 4 rfl) ?_
  refine x_iast (ws' := [(q4, .inl (g.2 0, 40, .inl (upd f5 7 1))), (q1, .inr (5, [w2, .ref q4]))]) hx hb hE hP hD hS 0 rfl 7 (x_in (by decide)) (by decide) dX3_putFigure_29 rfl (fun H locs hP hD hS => ?_)
  exact x_vret hx hb hr hlocks hP hD hS hAe hsz (Nat.le_of_ble_eq_true rfl) (Nat.le_of_ble_eq_true rfl) (fun _ => 0) [0, 1] (by decide) rfl dX3_putFigure_30

set_option maxHeartbeats 4000000 in
set_option maxRecDepth 100000 in
theorem c239_X3_measureOne (l : Launch) (g : gG) (q1 q4 q7 : Nat) (x10 : Int32) (f5 : Nat → Int32) (f8 : Nat → Int32) (hf6 : f5 5 = 1) (hf9 : f8 50 = x10) (hf11 : f8 48 = 0) (hf12 : f5 8 = 0) (sz : Nat) : Met l yX3_measureOne [Cond.code yX3_measureOne cX3_measureOne 9 none] ({ frames := 2, cells := 0, slots := 0, locals := 47 } : Room) (va_Pc [.ref q1, .int 1] (PX g sz [(q7, .inl (g.2 0, 384, .inl f8)), (q4, .inl (g.2 0, 40, .inl f5)), (q1, .inr (5, [.ref q7, .ref q4]))])) (QV g [(q7, .inl (g.2 0, 384, .inl f8)), (q4, .inl (g.2 0, 40, .inl f5)), (q1, .inr (5, [.ref q7, .ref q4]))] sz (fun _ => [(q7, .inl (g.2 0, 384, .inl f8)), (q4, .inl (g.2 0, 40, .inl (upd (upd (upd f5 6 x10) 7 1) 9 1))), (q1, .inr (5, [.ref q7, .ref q4]))])) 0 0 (va_A [(q7, .inl (g.2 0, 384, .inl f8)), (q4, .inl (g.2 0, 40, .inl f5)), (q1, .inr (5, [.ref q7, .ref q4]))] sz) := by
  refine ofN (by decide) (Nat.le_of_ble_eq_true rfl) rfl ?_
  intro p e s m args below meth c A ls hAe hsz hx hb hml hr hlocks hin hown hE hP hD hA hS hl
  have hown : s.vm.findClass RX3 = some m.cls := hown
  refine lv_iconst (v := 0) hx hb dX3_measureOne_0 (by decide) ?_
  refine lv_istore_n (lv' := [(2, .int 0), (0, .ref q1), (1, .int 1)]) hx hb dX3_measureOne_1 rfl hl (by decide) rfl (fun ls hl => ?_)
  refine lv_iconst (v := 0) hx hb dX3_measureOne_2 (by decide) ?_
  refine lv_istore_n (lv' := [(3, .int 0), (2, .int 0), (0, .ref q1), (1, .int 1)]) hx hb dX3_measureOne_3 rfl hl (by decide) rfl (fun ls hl => ?_)
  refine lv_iconst (v := 0) hx hb dX3_measureOne_4 (by decide) ?_
  refine lv_istore (lv' := [(4, .int 0), (3, .int 0), (2, .int 0), (0, .ref q1), (1, .int 1)]) hx hb dX3_measureOne_5 hl (by decide) rfl (fun ls hl => ?_)
  refine lv_iconst (v := 1) hx hb dX3_measureOne_7 (by decide) ?_
  refine lv_istore (lv' := [(5, .int 1), (4, .int 0), (3, .int 0), (2, .int 0), (0, .ref q1), (1, .int 1)]) hx hb dX3_measureOne_8 hl (by decide) rfl (fun ls hl => ?_)
  refine lv_aload_n hx hb dX3_measureOne_10 rfl (lv_at hl 4 rfl) ?_
  refine lv_iload_n hx hb dX3_measureOne_11 rfl (lv_at hl 5 rfl) ?_
  refine lv_iconst (v := 0) hx hb dX3_measureOne_12 (by decide) ?_
  refine g_i (wr := [(q7, .inl (g.2 0, 384, .inl f8))]) (rV (rest := []) hx hb hml hown hE hP hD 2 rfl rfl (c232_X3_figure l g q1 q4 (.ref q7) f5 (hf6) s.heap.size) (kV_X3_figure hE (e343 hE) rfl rfl ⟨(Nat.le_of_ble_eq_true rfl), (Nat.le_of_ble_eq_true rfl)⟩) [1, 2] rfl (by decide) rfl hl.1 rfl (lv_room (Nat.le_of_ble_eq_true rfl)) dX3_measureOne_13 ⟨(Nat.le_of_ble_eq_true rfl), (Nat.le_of_ble_eq_true rfl)⟩) hP hD hS hA [1, 2] [0] rfl rfl (by decide) (by decide) (fun u1 H locs hP hD hS => ?_)
  have hP : va_P g.1 vwCl [(q7, .inl (g.2 0, 384, .inl f8)), (q4, .inl (g.2 0, 40, .inl f5)), (q1, .inr (5, [.ref q7, .ref q4]))] H := hP
  have hD : va_D A [(q7, .inl (g.2 0, 384, .inl f8)), (q4, .inl (g.2 0, 40, .inl f5)), (q1, .inr (5, [.ref q7, .ref q4]))] := hD
  refine lv_istore (lv' := [(6, .int 1), (5, .int 1), (4, .int 0), (3, .int 0), (2, .int 0), (0, .ref q1), (1, .int 1)]) hx hb dX3_measureOne_16 hl (by decide) rfl (fun ls hl => ?_)
  refine lv_iconst (v := 0) hx hb dX3_measureOne_18 (by decide) ?_
  refine lv_istore (lv' := [(7, .int 0), (6, .int 1), (5, .int 1), (4, .int 0), (3, .int 0), (2, .int 0), (0, .ref q1), (1, .int 1)]) hx hb dX3_measureOne_19 hl (by decide) rfl (fun ls hl => ?_)
  refine lv_iload hx hb dX3_measureOne_21 (lv_at hl 0 rfl) ?_
  refine lv_iload hx hb dX3_measureOne_23 (lv_at hl 1 rfl) ?_
  refine lv_icmp_ge (tgt := 109) hx hb dX3_measureOne_25 (by decide) (fun h => absurd h (by decide)) (fun _ => ?_)
  refine lv_iload_n hx hb dX3_measureOne_28 rfl (lv_at hl 5 rfl) ?_
  refine lv_aload_n hx hb dX3_measureOne_29 rfl (lv_at hl 6 rfl) ?_
  refine lv_iload_n hx hb dX3_measureOne_30 rfl (lv_at hl 7 rfl) ?_
  refine lv_iload hx hb dX3_measureOne_31 (lv_at hl 0 rfl) ?_
  refine g_i (wr := [(q4, .inl (g.2 0, 40, .inl f5))]) (rV (rest := [.int 0]) hx hb hml hown hE hP hD 2 rfl rfl (c235_X3_lengthOf l g q1 q7 x10 (.ref q4) f8 (hf9) (hf11) H.size) (kV_X3_lengthOf hE (e352 hE) rfl rfl ⟨(Nat.le_of_ble_eq_true rfl), (Nat.le_of_ble_eq_true rfl)⟩) [0, 2] rfl (by decide) rfl hl.1 rfl (lv_room (Nat.le_of_ble_eq_true rfl)) dX3_measureOne_33 ⟨(Nat.le_of_ble_eq_true rfl), (Nat.le_of_ble_eq_true rfl)⟩) hP hD hS hA [0, 2] [1] rfl rfl (by decide) (by decide) (fun u2 H locs hP hD hS => ?_)
  have hP : va_P g.1 vwCl [(q4, .inl (g.2 0, 40, .inl f5)), (q7, .inl (g.2 0, 384, .inl f8)), (q1, .inr (5, [.ref q7, .ref q4]))] H := hP
  have hD : va_D A [(q4, .inl (g.2 0, 40, .inl f5)), (q7, .inl (g.2 0, 384, .inl f8)), (q1, .inr (5, [.ref q7, .ref q4]))] := hD
  refine x_iadd (v := x10) hx hb dX3_measureOne_36 (Int32.zero_add _) ?_
  refine lv_istore_n (lv' := [(2, .int x10), (7, .int 0), (6, .int 1), (5, .int 1), (4, .int 0), (3, .int 0), (0, .ref q1), (1, .int 1)]) hx hb dX3_measureOne_37 rfl hl (by decide) rfl (fun ls hl => ?_)
  refine lv_iload_n hx hb dX3_measureOne_38 rfl (lv_at hl 5 rfl) ?_
  refine lv_aload_n hx hb dX3_measureOne_39 rfl (lv_at hl 6 rfl) ?_
  refine lv_iload_n hx hb dX3_measureOne_40 rfl (lv_at hl 7 rfl) ?_
  refine lv_iload hx hb dX3_measureOne_41 (lv_at hl 1 rfl) ?_
  refine g_i (wr := [(q4, .inl (g.2 0, 40, .inl f5))]) (rV (rest := [.int 0]) hx hb hml hown hE hP hD 2 rfl rfl (c236_X3_notesOf l g q1 q7 (.ref q4) f8 (hf11) H.size) (kV_X3_notesOf hE (e344 hE) rfl rfl ⟨(Nat.le_of_ble_eq_true rfl), (Nat.le_of_ble_eq_true rfl)⟩) [1, 2] rfl (by decide) rfl hl.1 rfl (lv_room (Nat.le_of_ble_eq_true rfl)) dX3_measureOne_43 ⟨(Nat.le_of_ble_eq_true rfl), (Nat.le_of_ble_eq_true rfl)⟩) hP hD hS hA [1, 2] [0] rfl rfl (by decide) (by decide) (fun u3 H locs hP hD hS => ?_)
  have hP : va_P g.1 vwCl [(q4, .inl (g.2 0, 40, .inl f5)), (q7, .inl (g.2 0, 384, .inl f8)), (q1, .inr (5, [.ref q7, .ref q4]))] H := hP
  have hD : va_D A [(q4, .inl (g.2 0, 40, .inl f5)), (q7, .inl (g.2 0, 384, .inl f8)), (q1, .inr (5, [.ref q7, .ref q4]))] := hD
  refine x_iadd (v := 1) hx hb dX3_measureOne_46 (by decide) ?_
  refine lv_istore_n (lv' := [(3, .int 1), (2, .int x10), (7, .int 0), (6, .int 1), (5, .int 1), (4, .int 0), (0, .ref q1), (1, .int 1)]) hx hb dX3_measureOne_47 rfl hl (by decide) rfl (fun ls hl => ?_)
  refine lv_aload_n hx hb dX3_measureOne_48 rfl (lv_at hl 6 rfl) ?_
  refine lv_iload_n hx hb dX3_measureOne_49 rfl (lv_at hl 7 rfl) ?_
  refine lv_iload hx hb dX3_measureOne_50 (lv_at hl 2 rfl) ?_
  refine lv_iconst (v := 0) hx hb dX3_measureOne_52 (by decide) ?_
  refine g_i (wr := [(q4, .inl (g.2 0, 40, .inl f5))]) (rV (rest := []) hx hb hml hown hE hP hD 2 rfl rfl (c234_X3_itemNumber l g q1 q7 (.ref q4) f8 (hf11) H.size) (kV_X3_itemNumber hE (e348 hE) rfl rfl ⟨(Nat.le_of_ble_eq_true rfl), (Nat.le_of_ble_eq_true rfl)⟩) [1, 2] rfl (by decide) rfl hl.1 rfl (lv_room (Nat.le_of_ble_eq_true rfl)) dX3_measureOne_53 ⟨(Nat.le_of_ble_eq_true rfl), (Nat.le_of_ble_eq_true rfl)⟩) hP hD hS hA [1, 2] [0] rfl rfl (by decide) (by decide) (fun u4 H locs hP hD hS => ?_)
  have hP : va_P g.1 vwCl [(q4, .inl (g.2 0, 40, .inl f5)), (q7, .inl (g.2 0, 384, .inl f8)), (q1, .inr (5, [.ref q7, .ref q4]))] H := hP
  have hD : va_D A [(q4, .inl (g.2 0, 40, .inl f5)), (q7, .inl (g.2 0, 384, .inl f8)), (q1, .inr (5, [.ref q7, .ref q4]))] := hD
  refine lv_iconst (v := 2) hx hb dX3_measureOne_56 (by decide) ?_
  refine lv_icmp_ne (tgt := 103) hx hb dX3_measureOne_57 (by decide) (fun _ => ?_) (fun h => absurd h (by decide))
  refine lv_iinc (v := 1) (lv' := [(7, .int 1), (3, .int 1), (2, .int x10), (6, .int 1), (5, .int 1), (4, .int 0), (0, .ref q1), (1, .int 1)]) hx hb dX3_measureOne_103 hl (k := 2) rfl (by decide) (by decide) rfl (fun ls hl => ?_)
  refine lv_goto (tgt := 21) hx hb dX3_measureOne_106 (by decide) ?_
  refine lv_iload hx hb dX3_measureOne_21 (lv_at hl 0 rfl) ?_
  refine lv_iload hx hb dX3_measureOne_23 (lv_at hl 3 rfl) ?_
  refine lv_icmp_ge (tgt := 109) hx hb dX3_measureOne_25 (by decide) (fun _ => ?_) (fun h => absurd (by decide) h)
  refine lv_aload_n hx hb dX3_measureOne_109 rfl (lv_at hl 6 rfl) ?_
  refine lv_iload_n hx hb dX3_measureOne_110 rfl (lv_at hl 7 rfl) ?_
  refine lv_iconst (v := 1) hx hb dX3_measureOne_111 (by decide) ?_
  refine lv_iload_n hx hb dX3_measureOne_112 rfl (lv_at hl 2 rfl) ?_
  refine g_v (wr := [(q7, .inl (g.2 0, 384, .inl f8))]) (rV (rest := []) hx hb hml hown hE hP hD 2 rfl rfl (c237_X3_putFigure l g q1 q4 x10 (.ref q7) f5 H.size) (kV_X3_putFigure hE (e91 hE) rfl rfl ⟨(Nat.le_of_ble_eq_true rfl), (Nat.le_of_ble_eq_true rfl)⟩) [0, 2] rfl (by decide) rfl hl.1 rfl (lv_room (Nat.le_of_ble_eq_true rfl)) dX3_measureOne_113 ⟨(Nat.le_of_ble_eq_true rfl), (Nat.le_of_ble_eq_true rfl)⟩) hP hD hS hA [0, 2] [1] rfl rfl (by decide) (by decide) (fun u5 H locs hP hD hS => ?_)
  have hP : va_P g.1 vwCl [(q7, .inl (g.2 0, 384, .inl f8)), (q4, .inl (g.2 0, 40, .inl (upd f5 6 x10))), (q1, .inr (5, [.ref q7, .ref q4]))] H := hP
  have hD : va_D A [(q7, .inl (g.2 0, 384, .inl f8)), (q4, .inl (g.2 0, 40, .inl (upd f5 6 x10))), (q1, .inr (5, [.ref q7, .ref q4]))] := hD
  refine lv_aload_n hx hb dX3_measureOne_116 rfl (lv_at hl 6 rfl) ?_
  refine lv_iload_n hx hb dX3_measureOne_117 rfl (lv_at hl 7 rfl) ?_
  refine lv_iconst (v := 2) hx hb dX3_measureOne_118 (by decide) ?_
  refine lv_iload_n hx hb dX3_measureOne_119 rfl (lv_at hl 1 rfl) ?_
  refine g_v (wr := [(q7, .inl (g.2 0, 384, .inl f8))]) (rV (rest := []) hx hb hml hown hE hP hD 2 rfl rfl (c238_X3_putFigure l g q1 q4 (.ref q7) (upd f5 6 x10) H.size) (kV_X3_putFigure hE (e91 hE) rfl rfl ⟨(Nat.le_of_ble_eq_true rfl), (Nat.le_of_ble_eq_true rfl)⟩) [1, 2] rfl (by decide) rfl hl.1 rfl (lv_room (Nat.le_of_ble_eq_true rfl)) dX3_measureOne_120 ⟨(Nat.le_of_ble_eq_true rfl), (Nat.le_of_ble_eq_true rfl)⟩) hP hD hS hA [1, 2] [0] rfl rfl (by decide) (by decide) (fun u6 H locs hP hD hS => ?_)
  have hP : va_P g.1 vwCl [(q7, .inl (g.2 0, 384, .inl f8)), (q4, .inl (g.2 0, 40, .inl (upd (upd f5 6 x10) 7 1))), (q1, .inr (5, [.ref q7, .ref q4]))] H := hP
  have hD : va_D A [(q7, .inl (g.2 0, 384, .inl f8)), (q4, .inl (g.2 0, 40, .inl (upd (upd f5 6 x10) 7 1))), (q1, .inr (5, [.ref q7, .ref q4]))] := hD
  refine lv_aload_n hx hb dX3_measureOne_123 rfl (lv_at hl 6 rfl) ?_
  refine lv_iload_n hx hb dX3_measureOne_124 rfl (lv_at hl 7 rfl) ?_
  refine lv_iconst (v := 3) hx hb dX3_measureOne_125 (by decide) ?_
  refine lv_iload hx hb dX3_measureOne_126 (lv_at hl 5 rfl) ?_
  refine g_v (wr := [(q7, .inl (g.2 0, 384, .inl f8))]) (rV (rest := []) hx hb hml hown hE hP hD 2 rfl rfl (c149_X3_putFigure l g q1 q4 (.ref q7) (upd (upd f5 6 x10) 7 1) (((pk_un (by decide)).trans ((pk_un (by decide)).trans hf12))) H.size) (kV_X3_putFigure hE (e91 hE) rfl rfl ⟨(Nat.le_of_ble_eq_true rfl), (Nat.le_of_ble_eq_true rfl)⟩) [1, 2] rfl (by decide) rfl hl.1 rfl (lv_room (Nat.le_of_ble_eq_true rfl)) dX3_measureOne_128 ⟨(Nat.le_of_ble_eq_true rfl), (Nat.le_of_ble_eq_true rfl)⟩) hP hD hS hA [1, 2] [0] rfl rfl (by decide) (by decide) (fun u7 H locs hP hD hS => ?_)
  have hP : va_P g.1 vwCl [(q7, .inl (g.2 0, 384, .inl f8)), (q4, .inl (g.2 0, 40, .inl (upd (upd f5 6 x10) 7 1))), (q1, .inr (5, [.ref q7, .ref q4]))] H := hP
  have hD : va_D A [(q7, .inl (g.2 0, 384, .inl f8)), (q4, .inl (g.2 0, 40, .inl (upd (upd f5 6 x10) 7 1))), (q1, .inr (5, [.ref q7, .ref q4]))] := hD
  refine lv_aload_n hx hb dX3_measureOne_131 rfl (lv_at hl 6 rfl) ?_
  refine lv_iload_n hx hb dX3_measureOne_132 rfl (lv_at hl 7 rfl) ?_
  refine lv_iconst (v := 4) hx hb dX3_measureOne_133 (by decide) ?_
  refine lv_iload hx hb dX3_measureOne_134 (lv_at hl 4 rfl) ?_
  refine g_v (wr := [(q7, .inl (g.2 0, 384, .inl f8))]) (rV (rest := []) hx hb hml hown hE hP hD 2 rfl rfl (c4_X3_putFigure l g q1 q4 (.ref q7) (upd (upd f5 6 x10) 7 1) H.size) (kV_X3_putFigure hE (e91 hE) rfl rfl ⟨(Nat.le_of_ble_eq_true rfl), (Nat.le_of_ble_eq_true rfl)⟩) [1, 2] rfl (by decide) rfl hl.1 rfl (lv_room (Nat.le_of_ble_eq_true rfl)) dX3_measureOne_136 ⟨(Nat.le_of_ble_eq_true rfl), (Nat.le_of_ble_eq_true rfl)⟩) hP hD hS hA [1, 2] [0] rfl rfl (by decide) (by decide) (fun u8 H locs hP hD hS => ?_)
  have hP : va_P g.1 vwCl [(q7, .inl (g.2 0, 384, .inl f8)), (q4, .inl (g.2 0, 40, .inl (upd (upd (upd f5 6 x10) 7 1) 9 1))), (q1, .inr (5, [.ref q7, .ref q4]))] H := hP
  have hD : va_D A [(q7, .inl (g.2 0, 384, .inl f8)), (q4, .inl (g.2 0, 40, .inl (upd (upd (upd f5 6 x10) 7 1) 9 1))), (q1, .inr (5, [.ref q7, .ref q4]))] := hD
  exact x_vret hx hb hr hlocks hP hD hS hAe hsz (Nat.le_of_ble_eq_true rfl) (Nat.le_of_ble_eq_true rfl) (fun _ => 0) [0, 1, 2] (by decide) rfl dX3_measureOne_139

set_option maxHeartbeats 4000000 in
set_option maxRecDepth 100000 in
theorem c240_X3_figure (l : Launch) (g : gG) (q1 q4 : Nat) (x7 : Int32) (w2 : Value) (f5 : Nat → Int32) (hf6 : f5 6 = x7) (sz : Nat) : Met l yX3_figure [Cond.code yX3_figure cX3_figure 4 (some .int)] ({ frames := 0, cells := 0, slots := 0, locals := 0 } : Room) (va_Pc [.ref q1, .int 1, .int 1] (PX g sz [(q4, .inl (g.2 0, 40, .inl f5)), (q1, .inr (5, [w2, .ref q4]))])) (QI g [(q4, .inl (g.2 0, 40, .inl f5)), (q1, .inr (5, [w2, .ref q4]))] sz x7 (fun _ => [(q4, .inl (g.2 0, 40, .inl f5)), (q1, .inr (5, [w2, .ref q4]))])) 0 0 (va_A [(q4, .inl (g.2 0, 40, .inl f5)), (q1, .inr (5, [w2, .ref q4]))] sz) := by
  refine ofN (by decide) (Nat.le_of_ble_eq_true rfl) rfl ?_
  intro p e s m args below meth c A ls hAe hsz hx hb hml hr hlocks hin hown hE hP hD hA hS hl
  have hown : s.vm.findClass RX3 = some m.cls := hown
  refine lv_iload_n hx hb dX3_figure_0 rfl (lv_at hl 1 rfl) ?_
  refine lv_iconst (v := 5) hx hb dX3_figure_1 (by decide) ?_
  refine x_imul (v := 5) hx hb dX3_figure_2 (by decide) ?_
  refine lv_iload_n hx hb dX3_figure_3 rfl (lv_at hl 2 rfl) ?_
  refine x_iadd (v := 6) hx hb dX3_figure_4 (by decide) ?_
  refine lv_istore_n (lv' := [(3, .int 6), (0, .ref q1), (1, .int 1), (2, .int 1)]) hx hb dX3_figure_5 rfl hl (by decide) rfl (fun ls hl => ?_)
  refine lv_iload_n hx hb dX3_figure_6 rfl (lv_at hl 0 rfl) ?_
  refine lv_if_lt (tgt := 28) hx hb dX3_figure_7 (by decide) (fun h => absurd h (by decide)) (fun _ => ?_)
  refine lv_iload_n hx hb dX3_figure_10 rfl (lv_at hl 0 rfl) ?_
  refine lv_aload_n hx hb dX3_figure_11 rfl (lv_at hl 1 rfl) ?_
  refine gf_RX3_15 hx hb hown hE hP 1 rfl rfl dX3_figure_12 ?_
  refine x_aleni (v := 40) hx hb hE hP 0 rfl rfl dX3_figure_15 ?_
  refine lv_icmp_ge (tgt := 28) hx hb dX3_figure_16 (by decide) (fun h => absurd h (by decide)) (fun _ => ?_)
  refine lv_aload_n hx hb dX3_figure_19 rfl (lv_at hl 1 rfl) ?_
  refine gf_RX3_15 hx hb hown hE hP 1 rfl rfl dX3_figure_20 ?_
  refine lv_iload_n hx hb dX3_figure_23 rfl (lv_at hl 0 rfl) ?_
  refine x_iald (v := x7) hx hb hE hP 0 rfl 6 (x_in (by decide)) (by decide) hf6 dX3_figure_24 ?_
  refine lv_goto (tgt := 29) hx hb dX3_figure_25 (by decide) ?_
  exact x_zret hx hb hr rfl rfl hlocks hP hD hS hAe hsz (Nat.le_of_ble_eq_true rfl) (Nat.le_of_ble_eq_true rfl) (fun _ => 0) [0, 1] (by decide) rfl dX3_figure_29

set_option maxHeartbeats 4000000 in
set_option maxRecDepth 100000 in
theorem c241_X3_measure (l : Launch) (g : gG) (q1 q4 q5 : Nat) (x13 : Int32) (f6 : Nat → Int32) (f11 : Nat → Int32) (hf7 : f6 0 = 0) (hf8 : f6 2 = 0) (hf9 : f6 3 = 0) (hf10 : f6 5 = 1) (hf12 : f11 50 = x13) (hf14 : f11 48 = 0) (hf15 : f6 8 = 0) (hf17 : f6 10 = 0) (hf18 : f6 11 = 0) (hf19 : f6 12 = 0) (hf20 : f6 13 = 0) (hf21 : f6 15 = 0) (hf22 : f6 16 = 0) (hf23 : f6 17 = 0) (hf24 : f6 18 = 0) (hf25 : f6 20 = 0) (hf26 : f6 21 = 0) (hf27 : f6 22 = 0) (hf28 : f6 23 = 0) (hf29 : f6 25 = 0) (hf30 : f6 26 = 0) (hf31 : f6 27 = 0) (hf32 : f6 28 = 0) (hf33 : f6 30 = 0) (hf34 : f6 31 = 0) (hf35 : f6 32 = 0) (hf36 : f6 33 = 0) (hf37 : f6 35 = 0) (hf38 : f6 36 = 0) (hf39 : f6 37 = 0) (hf40 : f6 38 = 0) (h16 : x13 ≤ 20000) (sz : Nat) : Met l yX3_measure [Cond.code yX3_measure cX3_measure 2 (some .boolean)] ({ frames := 3, cells := 0, slots := 0, locals := 75 } : Room) (va_Pc [.ref q1] (PX g sz [(q4, .inl (g.2 0, 384, .inl f11)), (q5, .inl (g.2 0, 40, .inl f6)), (q1, .inr (5, [.ref q4, .ref q5]))])) (QI g [(q4, .inl (g.2 0, 384, .inl f11)), (q5, .inl (g.2 0, 40, .inl f6)), (q1, .inr (5, [.ref q4, .ref q5]))] sz 1 (fun _ => [(q4, .inl (g.2 0, 384, .inl f11)), (q5, .inl (g.2 0, 40, .inl (upd (upd (upd (upd (upd (upd (upd (upd (upd (upd (upd f6 1 0) 4 1) 6 x13) 7 1) 9 1) 14 1) 19 1) 24 1) 29 1) 34 1) 39 1))), (q1, .inr (5, [.ref q4, .ref q5]))])) 0 0 (va_A [(q4, .inl (g.2 0, 384, .inl f11)), (q5, .inl (g.2 0, 40, .inl f6)), (q1, .inr (5, [.ref q4, .ref q5]))] sz) := by
  refine ofN (by decide) (Nat.le_of_ble_eq_true rfl) rfl ?_
  intro p e s m args below meth c A ls hAe hsz hx hb hml hr hlocks hin hown hE hP hD hA hS hl
  have hown : s.vm.findClass RX3 = some m.cls := hown
  refine lv_iconst (v := 0) hx hb dX3_measure_0 (by decide) ?_
  refine lv_istore_n (lv' := [(1, .int 0), (0, .ref q1)]) hx hb dX3_measure_1 rfl hl (by decide) rfl (fun ls hl => ?_)
  refine lv_iload_n hx hb dX3_measure_2 rfl (lv_at hl 0 rfl) ?_
  refine lv_bipush (v := 8) hx hb dX3_measure_3 (by decide) ?_
  refine lv_icmp_ge (tgt := 33) hx hb dX3_measure_5 (by decide) (fun h => absurd h (by decide)) (fun _ => ?_)
  refine lv_aload_n hx hb dX3_measure_8 rfl (lv_at hl 1 rfl) ?_
  refine lv_iload_n hx hb dX3_measure_9 rfl (lv_at hl 0 rfl) ?_
  refine g_v (wr := [(q4, .inl (g.2 0, 384, .inl f11))]) (rV (rest := []) hx hb hml hown hE hP hD 2 rfl rfl (c231_X3_measureOne l g q1 q5 (.ref q4) f6 (hf7) (hf8) (hf9) s.heap.size) (kV_X3_measureOne hE (e698 hE) rfl rfl ⟨(Nat.le_of_ble_eq_true rfl), (Nat.le_of_ble_eq_true rfl)⟩) [1, 2] rfl (by decide) rfl hl.1 rfl (lv_room (Nat.le_of_ble_eq_true rfl)) dX3_measure_10 ⟨(Nat.le_of_ble_eq_true rfl), (Nat.le_of_ble_eq_true rfl)⟩) hP hD hS hA [1, 2] [0] rfl rfl (by decide) (by decide) (fun u1 H locs hP hD hS => ?_)
  have hP : va_P g.1 vwCl [(q4, .inl (g.2 0, 384, .inl f11)), (q5, .inl (g.2 0, 40, .inl (upd (upd f6 1 0) 4 1))), (q1, .inr (5, [.ref q4, .ref q5]))] H := hP
  have hD : va_D A [(q4, .inl (g.2 0, 384, .inl f11)), (q5, .inl (g.2 0, 40, .inl (upd (upd f6 1 0) 4 1))), (q1, .inr (5, [.ref q4, .ref q5]))] := hD
  refine lv_aload_n hx hb dX3_measure_13 rfl (lv_at hl 1 rfl) ?_
  refine lv_iload_n hx hb dX3_measure_14 rfl (lv_at hl 0 rfl) ?_
  refine lv_iconst (v := 1) hx hb dX3_measure_15 (by decide) ?_
  refine g_i (wr := [(q4, .inl (g.2 0, 384, .inl f11))]) (rV (rest := []) hx hb hml hown hE hP hD 2 rfl rfl (c145_X3_figure l g q1 q5 0 (.ref q4) (upd (upd f6 1 0) 4 1) (((pk_un (by decide)).trans pk_us)) H.size) (kV_X3_figure hE (e343 hE) rfl rfl ⟨(Nat.le_of_ble_eq_true rfl), (Nat.le_of_ble_eq_true rfl)⟩) [1, 2] rfl (by decide) rfl hl.1 rfl (lv_room (Nat.le_of_ble_eq_true rfl)) dX3_measure_16 ⟨(Nat.le_of_ble_eq_true rfl), (Nat.le_of_ble_eq_true rfl)⟩) hP hD hS hA [1, 2] [0] rfl rfl (by decide) (by decide) (fun u2 H locs hP hD hS => ?_)
  have hP : va_P g.1 vwCl [(q4, .inl (g.2 0, 384, .inl f11)), (q5, .inl (g.2 0, 40, .inl (upd (upd f6 1 0) 4 1))), (q1, .inr (5, [.ref q4, .ref q5]))] H := hP
  have hD : va_D A [(q4, .inl (g.2 0, 384, .inl f11)), (q5, .inl (g.2 0, 40, .inl (upd (upd f6 1 0) 4 1))), (q1, .inr (5, [.ref q4, .ref q5]))] := hD
  refine lv_sipush (v := 20000) hx hb dX3_measure_19 (by decide) ?_
  refine lv_icmp_le (tgt := 27) hx hb dX3_measure_22 (by decide) (fun _ => ?_) (fun h => absurd (by decide) h)
  refine lv_iinc (v := 1) (lv' := [(1, .int 1), (0, .ref q1)]) hx hb dX3_measure_27 hl (k := 0) rfl (by decide) (by decide) rfl (fun ls hl => ?_)
  refine lv_goto (tgt := 2) hx hb dX3_measure_30 (by decide) ?_
  refine lv_iload_n hx hb dX3_measure_2 rfl (lv_at hl 0 rfl) ?_
  refine lv_bipush (v := 8) hx hb dX3_measure_3 (by decide) ?_
  refine lv_icmp_ge (tgt := 33) hx hb dX3_measure_5 (by decide) (fun h => absurd h (by decide)) (fun _ => ?_)
  refine lv_aload_n hx hb dX3_measure_8 rfl (lv_at hl 1 rfl) ?_
  refine lv_iload_n hx hb dX3_measure_9 rfl (lv_at hl 0 rfl) ?_
  refine g_v (wr := []) (rV (rest := []) hx hb hml hown hE hP hD 2 rfl rfl (c239_X3_measureOne l g q1 q5 q4 x13 (upd (upd f6 1 0) 4 1) f11 (((pk_un (by decide)).trans ((pk_un (by decide)).trans hf10))) (hf12) (hf14) (((pk_un (by decide)).trans ((pk_un (by decide)).trans hf15))) H.size) (kV_X3_measureOne hE (e698 hE) rfl rfl ⟨(Nat.le_of_ble_eq_true rfl), (Nat.le_of_ble_eq_true rfl)⟩) [0, 1, 2] rfl (by decide) rfl hl.1 rfl (lv_room (Nat.le_of_ble_eq_true rfl)) dX3_measure_10 ⟨(Nat.le_of_ble_eq_true rfl), (Nat.le_of_ble_eq_true rfl)⟩) hP hD hS hA [0, 1, 2] [] rfl rfl (by decide) (by decide) (fun u3 H locs hP hD hS => ?_)
  have hP : va_P g.1 vwCl [(q4, .inl (g.2 0, 384, .inl f11)), (q5, .inl (g.2 0, 40, .inl (upd (upd (upd (upd (upd f6 1 0) 4 1) 6 x13) 7 1) 9 1))), (q1, .inr (5, [.ref q4, .ref q5]))] H := hP
  have hD : va_D A [(q4, .inl (g.2 0, 384, .inl f11)), (q5, .inl (g.2 0, 40, .inl (upd (upd (upd (upd (upd f6 1 0) 4 1) 6 x13) 7 1) 9 1))), (q1, .inr (5, [.ref q4, .ref q5]))] := hD
  refine lv_aload_n hx hb dX3_measure_13 rfl (lv_at hl 1 rfl) ?_
  refine lv_iload_n hx hb dX3_measure_14 rfl (lv_at hl 0 rfl) ?_
  refine lv_iconst (v := 1) hx hb dX3_measure_15 (by decide) ?_
  refine g_i (wr := [(q4, .inl (g.2 0, 384, .inl f11))]) (rV (rest := []) hx hb hml hown hE hP hD 2 rfl rfl (c240_X3_figure l g q1 q5 x13 (.ref q4) (upd (upd (upd (upd (upd f6 1 0) 4 1) 6 x13) 7 1) 9 1) (((pk_un (by decide)).trans ((pk_un (by decide)).trans pk_us))) H.size) (kV_X3_figure hE (e343 hE) rfl rfl ⟨(Nat.le_of_ble_eq_true rfl), (Nat.le_of_ble_eq_true rfl)⟩) [1, 2] rfl (by decide) rfl hl.1 rfl (lv_room (Nat.le_of_ble_eq_true rfl)) dX3_measure_16 ⟨(Nat.le_of_ble_eq_true rfl), (Nat.le_of_ble_eq_true rfl)⟩) hP hD hS hA [1, 2] [0] rfl rfl (by decide) (by decide) (fun u4 H locs hP hD hS => ?_)
  have hP : va_P g.1 vwCl [(q4, .inl (g.2 0, 384, .inl f11)), (q5, .inl (g.2 0, 40, .inl (upd (upd (upd (upd (upd f6 1 0) 4 1) 6 x13) 7 1) 9 1))), (q1, .inr (5, [.ref q4, .ref q5]))] H := hP
  have hD : va_D A [(q4, .inl (g.2 0, 384, .inl f11)), (q5, .inl (g.2 0, 40, .inl (upd (upd (upd (upd (upd f6 1 0) 4 1) 6 x13) 7 1) 9 1))), (q1, .inr (5, [.ref q4, .ref q5]))] := hD
  refine lv_sipush (v := 20000) hx hb dX3_measure_19 (by decide) ?_
  refine lv_icmp_le (tgt := 27) hx hb dX3_measure_22 (by decide) (fun _ => ?_) (fun h => absurd h16 h)
  refine lv_iinc (v := 2) (lv' := [(1, .int 2), (0, .ref q1)]) hx hb dX3_measure_27 hl (k := 0) rfl (by decide) (by decide) rfl (fun ls hl => ?_)
  refine lv_goto (tgt := 2) hx hb dX3_measure_30 (by decide) ?_
  refine lv_iload_n hx hb dX3_measure_2 rfl (lv_at hl 0 rfl) ?_
  refine lv_bipush (v := 8) hx hb dX3_measure_3 (by decide) ?_
  refine lv_icmp_ge (tgt := 33) hx hb dX3_measure_5 (by decide) (fun h => absurd h (by decide)) (fun _ => ?_)
  refine lv_aload_n hx hb dX3_measure_8 rfl (lv_at hl 1 rfl) ?_
  refine lv_iload_n hx hb dX3_measure_9 rfl (lv_at hl 0 rfl) ?_
  refine g_v (wr := [(q4, .inl (g.2 0, 384, .inl f11))]) (rV (rest := []) hx hb hml hown hE hP hD 2 rfl rfl (c156_X3_measureOne l g q1 q5 (.ref q4) (upd (upd (upd (upd (upd f6 1 0) 4 1) 6 x13) 7 1) 9 1) (((pk_un (by decide)).trans ((pk_un (by decide)).trans ((pk_un (by decide)).trans ((pk_un (by decide)).trans ((pk_un (by decide)).trans hf17)))))) (((pk_un (by decide)).trans ((pk_un (by decide)).trans ((pk_un (by decide)).trans ((pk_un (by decide)).trans ((pk_un (by decide)).trans hf18)))))) (((pk_un (by decide)).trans ((pk_un (by decide)).trans ((pk_un (by decide)).trans ((pk_un (by decide)).trans ((pk_un (by decide)).trans hf19)))))) (((pk_un (by decide)).trans ((pk_un (by decide)).trans ((pk_un (by decide)).trans ((pk_un (by decide)).trans ((pk_un (by decide)).trans hf20)))))) H.size) (kV_X3_measureOne hE (e698 hE) rfl rfl ⟨(Nat.le_of_ble_eq_true rfl), (Nat.le_of_ble_eq_true rfl)⟩) [1, 2] rfl (by decide) rfl hl.1 rfl (lv_room (Nat.le_of_ble_eq_true rfl)) dX3_measure_10 ⟨(Nat.le_of_ble_eq_true rfl), (Nat.le_of_ble_eq_true rfl)⟩) hP hD hS hA [1, 2] [0] rfl rfl (by decide) (by decide) (fun u5 H locs hP hD hS => ?_)
  have hP : va_P g.1 vwCl [(q4, .inl (g.2 0, 384, .inl f11)), (q5, .inl (g.2 0, 40, .inl (upd (upd (upd (upd (upd (upd f6 1 0) 4 1) 6 x13) 7 1) 9 1) 14 1))), (q1, .inr (5, [.ref q4, .ref q5]))] H := hP
  have hD : va_D A [(q4, .inl (g.2 0, 384, .inl f11)), (q5, .inl (g.2 0, 40, .inl (upd (upd (upd (upd (upd (upd f6 1 0) 4 1) 6 x13) 7 1) 9 1) 14 1))), (q1, .inr (5, [.ref q4, .ref q5]))] := hD
  refine lv_aload_n hx hb dX3_measure_13 rfl (lv_at hl 1 rfl) ?_
  refine lv_iload_n hx hb dX3_measure_14 rfl (lv_at hl 0 rfl) ?_
  refine lv_iconst (v := 1) hx hb dX3_measure_15 (by decide) ?_
  refine g_i (wr := [(q4, .inl (g.2 0, 384, .inl f11))]) (rV (rest := []) hx hb hml hown hE hP hD 2 rfl rfl (c157_X3_figure l g q1 q5 (.ref q4) (upd (upd (upd (upd (upd (upd f6 1 0) 4 1) 6 x13) 7 1) 9 1) 14 1) (((pk_un (by decide)).trans ((pk_un (by decide)).trans ((pk_un (by decide)).trans ((pk_un (by decide)).trans ((pk_un (by decide)).trans ((pk_un (by decide)).trans hf18))))))) H.size) (kV_X3_figure hE (e343 hE) rfl rfl ⟨(Nat.le_of_ble_eq_true rfl), (Nat.le_of_ble_eq_true rfl)⟩) [1, 2] rfl (by decide) rfl hl.1 rfl (lv_room (Nat.le_of_ble_eq_true rfl)) dX3_measure_16 ⟨(Nat.le_of_ble_eq_true rfl), (Nat.le_of_ble_eq_true rfl)⟩) hP hD hS hA [1, 2] [0] rfl rfl (by decide) (by decide) (fun u6 H locs hP hD hS => ?_)
  have hP : va_P g.1 vwCl [(q4, .inl (g.2 0, 384, .inl f11)), (q5, .inl (g.2 0, 40, .inl (upd (upd (upd (upd (upd (upd f6 1 0) 4 1) 6 x13) 7 1) 9 1) 14 1))), (q1, .inr (5, [.ref q4, .ref q5]))] H := hP
  have hD : va_D A [(q4, .inl (g.2 0, 384, .inl f11)), (q5, .inl (g.2 0, 40, .inl (upd (upd (upd (upd (upd (upd f6 1 0) 4 1) 6 x13) 7 1) 9 1) 14 1))), (q1, .inr (5, [.ref q4, .ref q5]))] := hD
  refine lv_sipush (v := 20000) hx hb dX3_measure_19 (by decide) ?_
  refine lv_icmp_le (tgt := 27) hx hb dX3_measure_22 (by decide) (fun _ => ?_) (fun h => absurd (by decide) h)
  refine lv_iinc (v := 3) (lv' := [(1, .int 3), (0, .ref q1)]) hx hb dX3_measure_27 hl (k := 0) rfl (by decide) (by decide) rfl (fun ls hl => ?_)
  refine lv_goto (tgt := 2) hx hb dX3_measure_30 (by decide) ?_
  refine lv_iload_n hx hb dX3_measure_2 rfl (lv_at hl 0 rfl) ?_
  refine lv_bipush (v := 8) hx hb dX3_measure_3 (by decide) ?_
  refine lv_icmp_ge (tgt := 33) hx hb dX3_measure_5 (by decide) (fun h => absurd h (by decide)) (fun _ => ?_)
  refine lv_aload_n hx hb dX3_measure_8 rfl (lv_at hl 1 rfl) ?_
  refine lv_iload_n hx hb dX3_measure_9 rfl (lv_at hl 0 rfl) ?_
  refine g_v (wr := [(q4, .inl (g.2 0, 384, .inl f11))]) (rV (rest := []) hx hb hml hown hE hP hD 2 rfl rfl (c162_X3_measureOne l g q1 q5 (.ref q4) (upd (upd (upd (upd (upd (upd f6 1 0) 4 1) 6 x13) 7 1) 9 1) 14 1) (((pk_un (by decide)).trans ((pk_un (by decide)).trans ((pk_un (by decide)).trans ((pk_un (by decide)).trans ((pk_un (by decide)).trans ((pk_un (by decide)).trans hf21))))))) (((pk_un (by decide)).trans ((pk_un (by decide)).trans ((pk_un (by decide)).trans ((pk_un (by decide)).trans ((pk_un (by decide)).trans ((pk_un (by decide)).trans hf22))))))) (((pk_un (by decide)).trans ((pk_un (by decide)).trans ((pk_un (by decide)).trans ((pk_un (by decide)).trans ((pk_un (by decide)).trans ((pk_un (by decide)).trans hf23))))))) (((pk_un (by decide)).trans ((pk_un (by decide)).trans ((pk_un (by decide)).trans ((pk_un (by decide)).trans ((pk_un (by decide)).trans ((pk_un (by decide)).trans hf24))))))) H.size) (kV_X3_measureOne hE (e698 hE) rfl rfl ⟨(Nat.le_of_ble_eq_true rfl), (Nat.le_of_ble_eq_true rfl)⟩) [1, 2] rfl (by decide) rfl hl.1 rfl (lv_room (Nat.le_of_ble_eq_true rfl)) dX3_measure_10 ⟨(Nat.le_of_ble_eq_true rfl), (Nat.le_of_ble_eq_true rfl)⟩) hP hD hS hA [1, 2] [0] rfl rfl (by decide) (by decide) (fun u7 H locs hP hD hS => ?_)
  have hP : va_P g.1 vwCl [(q4, .inl (g.2 0, 384, .inl f11)), (q5, .inl (g.2 0, 40, .inl (upd (upd (upd (upd (upd (upd (upd f6 1 0) 4 1) 6 x13) 7 1) 9 1) 14 1) 19 1))), (q1, .inr (5, [.ref q4, .ref q5]))] H := hP
  have hD : va_D A [(q4, .inl (g.2 0, 384, .inl f11)), (q5, .inl (g.2 0, 40, .inl (upd (upd (upd (upd (upd (upd (upd f6 1 0) 4 1) 6 x13) 7 1) 9 1) 14 1) 19 1))), (q1, .inr (5, [.ref q4, .ref q5]))] := hD
  refine lv_aload_n hx hb dX3_measure_13 rfl (lv_at hl 1 rfl) ?_
  refine lv_iload_n hx hb dX3_measure_14 rfl (lv_at hl 0 rfl) ?_
  refine lv_iconst (v := 1) hx hb dX3_measure_15 (by decide) ?_
  refine g_i (wr := [(q4, .inl (g.2 0, 384, .inl f11))]) (rV (rest := []) hx hb hml hown hE hP hD 2 rfl rfl (c163_X3_figure l g q1 q5 (.ref q4) (upd (upd (upd (upd (upd (upd (upd f6 1 0) 4 1) 6 x13) 7 1) 9 1) 14 1) 19 1) (((pk_un (by decide)).trans ((pk_un (by decide)).trans ((pk_un (by decide)).trans ((pk_un (by decide)).trans ((pk_un (by decide)).trans ((pk_un (by decide)).trans ((pk_un (by decide)).trans hf22)))))))) H.size) (kV_X3_figure hE (e343 hE) rfl rfl ⟨(Nat.le_of_ble_eq_true rfl), (Nat.le_of_ble_eq_true rfl)⟩) [1, 2] rfl (by decide) rfl hl.1 rfl (lv_room (Nat.le_of_ble_eq_true rfl)) dX3_measure_16 ⟨(Nat.le_of_ble_eq_true rfl), (Nat.le_of_ble_eq_true rfl)⟩) hP hD hS hA [1, 2] [0] rfl rfl (by decide) (by decide) (fun u8 H locs hP hD hS => ?_)
  have hP : va_P g.1 vwCl [(q4, .inl (g.2 0, 384, .inl f11)), (q5, .inl (g.2 0, 40, .inl (upd (upd (upd (upd (upd (upd (upd f6 1 0) 4 1) 6 x13) 7 1) 9 1) 14 1) 19 1))), (q1, .inr (5, [.ref q4, .ref q5]))] H := hP
  have hD : va_D A [(q4, .inl (g.2 0, 384, .inl f11)), (q5, .inl (g.2 0, 40, .inl (upd (upd (upd (upd (upd (upd (upd f6 1 0) 4 1) 6 x13) 7 1) 9 1) 14 1) 19 1))), (q1, .inr (5, [.ref q4, .ref q5]))] := hD
  refine lv_sipush (v := 20000) hx hb dX3_measure_19 (by decide) ?_
  refine lv_icmp_le (tgt := 27) hx hb dX3_measure_22 (by decide) (fun _ => ?_) (fun h => absurd (by decide) h)
  refine lv_iinc (v := 4) (lv' := [(1, .int 4), (0, .ref q1)]) hx hb dX3_measure_27 hl (k := 0) rfl (by decide) (by decide) rfl (fun ls hl => ?_)
  refine lv_goto (tgt := 2) hx hb dX3_measure_30 (by decide) ?_
  refine lv_iload_n hx hb dX3_measure_2 rfl (lv_at hl 0 rfl) ?_
  refine lv_bipush (v := 8) hx hb dX3_measure_3 (by decide) ?_
  refine lv_icmp_ge (tgt := 33) hx hb dX3_measure_5 (by decide) (fun h => absurd h (by decide)) (fun _ => ?_)
  refine lv_aload_n hx hb dX3_measure_8 rfl (lv_at hl 1 rfl) ?_
  refine lv_iload_n hx hb dX3_measure_9 rfl (lv_at hl 0 rfl) ?_
  refine g_v (wr := [(q4, .inl (g.2 0, 384, .inl f11))]) (rV (rest := []) hx hb hml hown hE hP hD 2 rfl rfl (c168_X3_measureOne l g q1 q5 (.ref q4) (upd (upd (upd (upd (upd (upd (upd f6 1 0) 4 1) 6 x13) 7 1) 9 1) 14 1) 19 1) (((pk_un (by decide)).trans ((pk_un (by decide)).trans ((pk_un (by decide)).trans ((pk_un (by decide)).trans ((pk_un (by decide)).trans ((pk_un (by decide)).trans ((pk_un (by decide)).trans hf25)))))))) (((pk_un (by decide)).trans ((pk_un (by decide)).trans ((pk_un (by decide)).trans ((pk_un (by decide)).trans ((pk_un (by decide)).trans ((pk_un (by decide)).trans ((pk_un (by decide)).trans hf26)))))))) (((pk_un (by decide)).trans ((pk_un (by decide)).trans ((pk_un (by decide)).trans ((pk_un (by decide)).trans ((pk_un (by decide)).trans ((pk_un (by decide)).trans ((pk_un (by decide)).trans hf27)))))))) (((pk_un (by decide)).trans ((pk_un (by decide)).trans ((pk_un (by decide)).trans ((pk_un (by decide)).trans ((pk_un (by decide)).trans ((pk_un (by decide)).trans ((pk_un (by decide)).trans hf28)))))))) H.size) (kV_X3_measureOne hE (e698 hE) rfl rfl ⟨(Nat.le_of_ble_eq_true rfl), (Nat.le_of_ble_eq_true rfl)⟩) [1, 2] rfl (by decide) rfl hl.1 rfl (lv_room (Nat.le_of_ble_eq_true rfl)) dX3_measure_10 ⟨(Nat.le_of_ble_eq_true rfl), (Nat.le_of_ble_eq_true rfl)⟩) hP hD hS hA [1, 2] [0] rfl rfl (by decide) (by decide) (fun u9 H locs hP hD hS => ?_)
  have hP : va_P g.1 vwCl [(q4, .inl (g.2 0, 384, .inl f11)), (q5, .inl (g.2 0, 40, .inl (upd (upd (upd (upd (upd (upd (upd (upd f6 1 0) 4 1) 6 x13) 7 1) 9 1) 14 1) 19 1) 24 1))), (q1, .inr (5, [.ref q4, .ref q5]))] H := hP
  have hD : va_D A [(q4, .inl (g.2 0, 384, .inl f11)), (q5, .inl (g.2 0, 40, .inl (upd (upd (upd (upd (upd (upd (upd (upd f6 1 0) 4 1) 6 x13) 7 1) 9 1) 14 1) 19 1) 24 1))), (q1, .inr (5, [.ref q4, .ref q5]))] := hD
  refine lv_aload_n hx hb dX3_measure_13 rfl (lv_at hl 1 rfl) ?_
  refine lv_iload_n hx hb dX3_measure_14 rfl (lv_at hl 0 rfl) ?_
  refine lv_iconst (v := 1) hx hb dX3_measure_15 (by decide) ?_
  refine g_i (wr := [(q4, .inl (g.2 0, 384, .inl f11))]) (rV (rest := []) hx hb hml hown hE hP hD 2 rfl rfl (c169_X3_figure l g q1 q5 (.ref q4) (upd (upd (upd (upd (upd (upd (upd (upd f6 1 0) 4 1) 6 x13) 7 1) 9 1) 14 1) 19 1) 24 1) (((pk_un (by decide)).trans ((pk_un (by decide)).trans ((pk_un (by decide)).trans ((pk_un (by decide)).trans ((pk_un (by decide)).trans ((pk_un (by decide)).trans ((pk_un (by decide)).trans ((pk_un (by decide)).trans hf26))))))))) H.size) (kV_X3_figure hE (e343 hE) rfl rfl ⟨(Nat.le_of_ble_eq_true rfl), (Nat.le_of_ble_eq_true rfl)⟩) [1, 2] rfl (by decide) rfl hl.1 rfl (lv_room (Nat.le_of_ble_eq_true rfl)) dX3_measure_16 ⟨(Nat.le_of_ble_eq_true rfl), (Nat.le_of_ble_eq_true rfl)⟩) hP hD hS hA [1, 2] [0] rfl rfl (by decide) (by decide) (fun u10 H locs hP hD hS => ?_)
  have hP : va_P g.1 vwCl [(q4, .inl (g.2 0, 384, .inl f11)), (q5, .inl (g.2 0, 40, .inl (upd (upd (upd (upd (upd (upd (upd (upd f6 1 0) 4 1) 6 x13) 7 1) 9 1) 14 1) 19 1) 24 1))), (q1, .inr (5, [.ref q4, .ref q5]))] H := hP
  have hD : va_D A [(q4, .inl (g.2 0, 384, .inl f11)), (q5, .inl (g.2 0, 40, .inl (upd (upd (upd (upd (upd (upd (upd (upd f6 1 0) 4 1) 6 x13) 7 1) 9 1) 14 1) 19 1) 24 1))), (q1, .inr (5, [.ref q4, .ref q5]))] := hD
  refine lv_sipush (v := 20000) hx hb dX3_measure_19 (by decide) ?_
  refine lv_icmp_le (tgt := 27) hx hb dX3_measure_22 (by decide) (fun _ => ?_) (fun h => absurd (by decide) h)
  refine lv_iinc (v := 5) (lv' := [(1, .int 5), (0, .ref q1)]) hx hb dX3_measure_27 hl (k := 0) rfl (by decide) (by decide) rfl (fun ls hl => ?_)
  refine lv_goto (tgt := 2) hx hb dX3_measure_30 (by decide) ?_
  refine lv_iload_n hx hb dX3_measure_2 rfl (lv_at hl 0 rfl) ?_
  refine lv_bipush (v := 8) hx hb dX3_measure_3 (by decide) ?_
  refine lv_icmp_ge (tgt := 33) hx hb dX3_measure_5 (by decide) (fun h => absurd h (by decide)) (fun _ => ?_)
  refine lv_aload_n hx hb dX3_measure_8 rfl (lv_at hl 1 rfl) ?_
  refine lv_iload_n hx hb dX3_measure_9 rfl (lv_at hl 0 rfl) ?_
  refine g_v (wr := [(q4, .inl (g.2 0, 384, .inl f11))]) (rV (rest := []) hx hb hml hown hE hP hD 2 rfl rfl (c174_X3_measureOne l g q1 q5 (.ref q4) (upd (upd (upd (upd (upd (upd (upd (upd f6 1 0) 4 1) 6 x13) 7 1) 9 1) 14 1) 19 1) 24 1) (((pk_un (by decide)).trans ((pk_un (by decide)).trans ((pk_un (by decide)).trans ((pk_un (by decide)).trans ((pk_un (by decide)).trans ((pk_un (by decide)).trans ((pk_un (by decide)).trans ((pk_un (by decide)).trans hf29))))))))) (((pk_un (by decide)).trans ((pk_un (by decide)).trans ((pk_un (by decide)).trans ((pk_un (by decide)).trans ((pk_un (by decide)).trans ((pk_un (by decide)).trans ((pk_un (by decide)).trans ((pk_un (by decide)).trans hf30))))))))) (((pk_un (by decide)).trans ((pk_un (by decide)).trans ((pk_un (by decide)).trans ((pk_un (by decide)).trans ((pk_un (by decide)).trans ((pk_un (by decide)).trans ((pk_un (by decide)).trans ((pk_un (by decide)).trans hf31))))))))) (((pk_un (by decide)).trans ((pk_un (by decide)).trans ((pk_un (by decide)).trans ((pk_un (by decide)).trans ((pk_un (by decide)).trans ((pk_un (by decide)).trans ((pk_un (by decide)).trans ((pk_un (by decide)).trans hf32))))))))) H.size) (kV_X3_measureOne hE (e698 hE) rfl rfl ⟨(Nat.le_of_ble_eq_true rfl), (Nat.le_of_ble_eq_true rfl)⟩) [1, 2] rfl (by decide) rfl hl.1 rfl (lv_room (Nat.le_of_ble_eq_true rfl)) dX3_measure_10 ⟨(Nat.le_of_ble_eq_true rfl), (Nat.le_of_ble_eq_true rfl)⟩) hP hD hS hA [1, 2] [0] rfl rfl (by decide) (by decide) (fun u11 H locs hP hD hS => ?_)
  have hP : va_P g.1 vwCl [(q4, .inl (g.2 0, 384, .inl f11)), (q5, .inl (g.2 0, 40, .inl (upd (upd (upd (upd (upd (upd (upd (upd (upd f6 1 0) 4 1) 6 x13) 7 1) 9 1) 14 1) 19 1) 24 1) 29 1))), (q1, .inr (5, [.ref q4, .ref q5]))] H := hP
  have hD : va_D A [(q4, .inl (g.2 0, 384, .inl f11)), (q5, .inl (g.2 0, 40, .inl (upd (upd (upd (upd (upd (upd (upd (upd (upd f6 1 0) 4 1) 6 x13) 7 1) 9 1) 14 1) 19 1) 24 1) 29 1))), (q1, .inr (5, [.ref q4, .ref q5]))] := hD
  refine lv_aload_n hx hb dX3_measure_13 rfl (lv_at hl 1 rfl) ?_
  refine lv_iload_n hx hb dX3_measure_14 rfl (lv_at hl 0 rfl) ?_
  refine lv_iconst (v := 1) hx hb dX3_measure_15 (by decide) ?_
  refine g_i (wr := [(q4, .inl (g.2 0, 384, .inl f11))]) (rV (rest := []) hx hb hml hown hE hP hD 2 rfl rfl (c175_X3_figure l g q1 q5 (.ref q4) (upd (upd (upd (upd (upd (upd (upd (upd (upd f6 1 0) 4 1) 6 x13) 7 1) 9 1) 14 1) 19 1) 24 1) 29 1) (((pk_un (by decide)).trans ((pk_un (by decide)).trans ((pk_un (by decide)).trans ((pk_un (by decide)).trans ((pk_un (by decide)).trans ((pk_un (by decide)).trans ((pk_un (by decide)).trans ((pk_un (by decide)).trans ((pk_un (by decide)).trans hf30)))))))))) H.size) (kV_X3_figure hE (e343 hE) rfl rfl ⟨(Nat.le_of_ble_eq_true rfl), (Nat.le_of_ble_eq_true rfl)⟩) [1, 2] rfl (by decide) rfl hl.1 rfl (lv_room (Nat.le_of_ble_eq_true rfl)) dX3_measure_16 ⟨(Nat.le_of_ble_eq_true rfl), (Nat.le_of_ble_eq_true rfl)⟩) hP hD hS hA [1, 2] [0] rfl rfl (by decide) (by decide) (fun u12 H locs hP hD hS => ?_)
  have hP : va_P g.1 vwCl [(q4, .inl (g.2 0, 384, .inl f11)), (q5, .inl (g.2 0, 40, .inl (upd (upd (upd (upd (upd (upd (upd (upd (upd f6 1 0) 4 1) 6 x13) 7 1) 9 1) 14 1) 19 1) 24 1) 29 1))), (q1, .inr (5, [.ref q4, .ref q5]))] H := hP
  have hD : va_D A [(q4, .inl (g.2 0, 384, .inl f11)), (q5, .inl (g.2 0, 40, .inl (upd (upd (upd (upd (upd (upd (upd (upd (upd f6 1 0) 4 1) 6 x13) 7 1) 9 1) 14 1) 19 1) 24 1) 29 1))), (q1, .inr (5, [.ref q4, .ref q5]))] := hD
  refine lv_sipush (v := 20000) hx hb dX3_measure_19 (by decide) ?_
  refine lv_icmp_le (tgt := 27) hx hb dX3_measure_22 (by decide) (fun _ => ?_) (fun h => absurd (by decide) h)
  refine lv_iinc (v := 6) (lv' := [(1, .int 6), (0, .ref q1)]) hx hb dX3_measure_27 hl (k := 0) rfl (by decide) (by decide) rfl (fun ls hl => ?_)
  refine lv_goto (tgt := 2) hx hb dX3_measure_30 (by decide) ?_
  refine lv_iload_n hx hb dX3_measure_2 rfl (lv_at hl 0 rfl) ?_
  refine lv_bipush (v := 8) hx hb dX3_measure_3 (by decide) ?_
  refine lv_icmp_ge (tgt := 33) hx hb dX3_measure_5 (by decide) (fun h => absurd h (by decide)) (fun _ => ?_)
  refine lv_aload_n hx hb dX3_measure_8 rfl (lv_at hl 1 rfl) ?_
  refine lv_iload_n hx hb dX3_measure_9 rfl (lv_at hl 0 rfl) ?_
  refine g_v (wr := [(q4, .inl (g.2 0, 384, .inl f11))]) (rV (rest := []) hx hb hml hown hE hP hD 2 rfl rfl (c180_X3_measureOne l g q1 q5 (.ref q4) (upd (upd (upd (upd (upd (upd (upd (upd (upd f6 1 0) 4 1) 6 x13) 7 1) 9 1) 14 1) 19 1) 24 1) 29 1) (((pk_un (by decide)).trans ((pk_un (by decide)).trans ((pk_un (by decide)).trans ((pk_un (by decide)).trans ((pk_un (by decide)).trans ((pk_un (by decide)).trans ((pk_un (by decide)).trans ((pk_un (by decide)).trans ((pk_un (by decide)).trans hf33)))))))))) (((pk_un (by decide)).trans ((pk_un (by decide)).trans ((pk_un (by decide)).trans ((pk_un (by decide)).trans ((pk_un (by decide)).trans ((pk_un (by decide)).trans ((pk_un (by decide)).trans ((pk_un (by decide)).trans ((pk_un (by decide)).trans hf34)))))))))) (((pk_un (by decide)).trans ((pk_un (by decide)).trans ((pk_un (by decide)).trans ((pk_un (by decide)).trans ((pk_un (by decide)).trans ((pk_un (by decide)).trans ((pk_un (by decide)).trans ((pk_un (by decide)).trans ((pk_un (by decide)).trans hf35)))))))))) (((pk_un (by decide)).trans ((pk_un (by decide)).trans ((pk_un (by decide)).trans ((pk_un (by decide)).trans ((pk_un (by decide)).trans ((pk_un (by decide)).trans ((pk_un (by decide)).trans ((pk_un (by decide)).trans ((pk_un (by decide)).trans hf36)))))))))) H.size) (kV_X3_measureOne hE (e698 hE) rfl rfl ⟨(Nat.le_of_ble_eq_true rfl), (Nat.le_of_ble_eq_true rfl)⟩) [1, 2] rfl (by decide) rfl hl.1 rfl (lv_room (Nat.le_of_ble_eq_true rfl)) dX3_measure_10 ⟨(Nat.le_of_ble_eq_true rfl), (Nat.le_of_ble_eq_true rfl)⟩) hP hD hS hA [1, 2] [0] rfl rfl (by decide) (by decide) (fun u13 H locs hP hD hS => ?_)
  have hP : va_P g.1 vwCl [(q4, .inl (g.2 0, 384, .inl f11)), (q5, .inl (g.2 0, 40, .inl (upd (upd (upd (upd (upd (upd (upd (upd (upd (upd f6 1 0) 4 1) 6 x13) 7 1) 9 1) 14 1) 19 1) 24 1) 29 1) 34 1))), (q1, .inr (5, [.ref q4, .ref q5]))] H := hP
  have hD : va_D A [(q4, .inl (g.2 0, 384, .inl f11)), (q5, .inl (g.2 0, 40, .inl (upd (upd (upd (upd (upd (upd (upd (upd (upd (upd f6 1 0) 4 1) 6 x13) 7 1) 9 1) 14 1) 19 1) 24 1) 29 1) 34 1))), (q1, .inr (5, [.ref q4, .ref q5]))] := hD
  refine lv_aload_n hx hb dX3_measure_13 rfl (lv_at hl 1 rfl) ?_
  refine lv_iload_n hx hb dX3_measure_14 rfl (lv_at hl 0 rfl) ?_
  refine lv_iconst (v := 1) hx hb dX3_measure_15 (by decide) ?_
  refine g_i (wr := [(q4, .inl (g.2 0, 384, .inl f11))]) (rV (rest := []) hx hb hml hown hE hP hD 2 rfl rfl (c181_X3_figure l g q1 q5 (.ref q4) (upd (upd (upd (upd (upd (upd (upd (upd (upd (upd f6 1 0) 4 1) 6 x13) 7 1) 9 1) 14 1) 19 1) 24 1) 29 1) 34 1) (((pk_un (by decide)).trans ((pk_un (by decide)).trans ((pk_un (by decide)).trans ((pk_un (by decide)).trans ((pk_un (by decide)).trans ((pk_un (by decide)).trans ((pk_un (by decide)).trans ((pk_un (by decide)).trans ((pk_un (by decide)).trans ((pk_un (by decide)).trans hf34))))))))))) H.size) (kV_X3_figure hE (e343 hE) rfl rfl ⟨(Nat.le_of_ble_eq_true rfl), (Nat.le_of_ble_eq_true rfl)⟩) [1, 2] rfl (by decide) rfl hl.1 rfl (lv_room (Nat.le_of_ble_eq_true rfl)) dX3_measure_16 ⟨(Nat.le_of_ble_eq_true rfl), (Nat.le_of_ble_eq_true rfl)⟩) hP hD hS hA [1, 2] [0] rfl rfl (by decide) (by decide) (fun u14 H locs hP hD hS => ?_)
  have hP : va_P g.1 vwCl [(q4, .inl (g.2 0, 384, .inl f11)), (q5, .inl (g.2 0, 40, .inl (upd (upd (upd (upd (upd (upd (upd (upd (upd (upd f6 1 0) 4 1) 6 x13) 7 1) 9 1) 14 1) 19 1) 24 1) 29 1) 34 1))), (q1, .inr (5, [.ref q4, .ref q5]))] H := hP
  have hD : va_D A [(q4, .inl (g.2 0, 384, .inl f11)), (q5, .inl (g.2 0, 40, .inl (upd (upd (upd (upd (upd (upd (upd (upd (upd (upd f6 1 0) 4 1) 6 x13) 7 1) 9 1) 14 1) 19 1) 24 1) 29 1) 34 1))), (q1, .inr (5, [.ref q4, .ref q5]))] := hD
  refine lv_sipush (v := 20000) hx hb dX3_measure_19 (by decide) ?_
  refine lv_icmp_le (tgt := 27) hx hb dX3_measure_22 (by decide) (fun _ => ?_) (fun h => absurd (by decide) h)
  refine lv_iinc (v := 7) (lv' := [(1, .int 7), (0, .ref q1)]) hx hb dX3_measure_27 hl (k := 0) rfl (by decide) (by decide) rfl (fun ls hl => ?_)
  refine lv_goto (tgt := 2) hx hb dX3_measure_30 (by decide) ?_
  refine lv_iload_n hx hb dX3_measure_2 rfl (lv_at hl 0 rfl) ?_
  refine lv_bipush (v := 8) hx hb dX3_measure_3 (by decide) ?_
  refine lv_icmp_ge (tgt := 33) hx hb dX3_measure_5 (by decide) (fun h => absurd h (by decide)) (fun _ => ?_)
  refine lv_aload_n hx hb dX3_measure_8 rfl (lv_at hl 1 rfl) ?_
  refine lv_iload_n hx hb dX3_measure_9 rfl (lv_at hl 0 rfl) ?_
  refine g_v (wr := [(q4, .inl (g.2 0, 384, .inl f11))]) (rV (rest := []) hx hb hml hown hE hP hD 2 rfl rfl (c186_X3_measureOne l g q1 q5 (.ref q4) (upd (upd (upd (upd (upd (upd (upd (upd (upd (upd f6 1 0) 4 1) 6 x13) 7 1) 9 1) 14 1) 19 1) 24 1) 29 1) 34 1) (((pk_un (by decide)).trans ((pk_un (by decide)).trans ((pk_un (by decide)).trans ((pk_un (by decide)).trans ((pk_un (by decide)).trans ((pk_un (by decide)).trans ((pk_un (by decide)).trans ((pk_un (by decide)).trans ((pk_un (by decide)).trans ((pk_un (by decide)).trans hf37))))))))))) (((pk_un (by decide)).trans ((pk_un (by decide)).trans ((pk_un (by decide)).trans ((pk_un (by decide)).trans ((pk_un (by decide)).trans ((pk_un (by decide)).trans ((pk_un (by decide)).trans ((pk_un (by decide)).trans ((pk_un (by decide)).trans ((pk_un (by decide)).trans hf38))))))))))) (((pk_un (by decide)).trans ((pk_un (by decide)).trans ((pk_un (by decide)).trans ((pk_un (by decide)).trans ((pk_un (by decide)).trans ((pk_un (by decide)).trans ((pk_un (by decide)).trans ((pk_un (by decide)).trans ((pk_un (by decide)).trans ((pk_un (by decide)).trans hf39))))))))))) (((pk_un (by decide)).trans ((pk_un (by decide)).trans ((pk_un (by decide)).trans ((pk_un (by decide)).trans ((pk_un (by decide)).trans ((pk_un (by decide)).trans ((pk_un (by decide)).trans ((pk_un (by decide)).trans ((pk_un (by decide)).trans ((pk_un (by decide)).trans hf40))))))))))) H.size) (kV_X3_measureOne hE (e698 hE) rfl rfl ⟨(Nat.le_of_ble_eq_true rfl), (Nat.le_of_ble_eq_true rfl)⟩) [1, 2] rfl (by decide) rfl hl.1 rfl (lv_room (Nat.le_of_ble_eq_true rfl)) dX3_measure_10 ⟨(Nat.le_of_ble_eq_true rfl), (Nat.le_of_ble_eq_true rfl)⟩) hP hD hS hA [1, 2] [0] rfl rfl (by decide) (by decide) (fun u15 H locs hP hD hS => ?_)
  have hP : va_P g.1 vwCl [(q4, .inl (g.2 0, 384, .inl f11)), (q5, .inl (g.2 0, 40, .inl (upd (upd (upd (upd (upd (upd (upd (upd (upd (upd (upd f6 1 0) 4 1) 6 x13) 7 1) 9 1) 14 1) 19 1) 24 1) 29 1) 34 1) 39 1))), (q1, .inr (5, [.ref q4, .ref q5]))] H := hP
  have hD : va_D A [(q4, .inl (g.2 0, 384, .inl f11)), (q5, .inl (g.2 0, 40, .inl (upd (upd (upd (upd (upd (upd (upd (upd (upd (upd (upd f6 1 0) 4 1) 6 x13) 7 1) 9 1) 14 1) 19 1) 24 1) 29 1) 34 1) 39 1))), (q1, .inr (5, [.ref q4, .ref q5]))] := hD
  refine lv_aload_n hx hb dX3_measure_13 rfl (lv_at hl 1 rfl) ?_
  refine lv_iload_n hx hb dX3_measure_14 rfl (lv_at hl 0 rfl) ?_
  refine lv_iconst (v := 1) hx hb dX3_measure_15 (by decide) ?_
  refine g_i (wr := [(q4, .inl (g.2 0, 384, .inl f11))]) (rV (rest := []) hx hb hml hown hE hP hD 2 rfl rfl (c187_X3_figure l g q1 q5 (.ref q4) (upd (upd (upd (upd (upd (upd (upd (upd (upd (upd (upd f6 1 0) 4 1) 6 x13) 7 1) 9 1) 14 1) 19 1) 24 1) 29 1) 34 1) 39 1) (((pk_un (by decide)).trans ((pk_un (by decide)).trans ((pk_un (by decide)).trans ((pk_un (by decide)).trans ((pk_un (by decide)).trans ((pk_un (by decide)).trans ((pk_un (by decide)).trans ((pk_un (by decide)).trans ((pk_un (by decide)).trans ((pk_un (by decide)).trans ((pk_un (by decide)).trans hf38)))))))))))) H.size) (kV_X3_figure hE (e343 hE) rfl rfl ⟨(Nat.le_of_ble_eq_true rfl), (Nat.le_of_ble_eq_true rfl)⟩) [1, 2] rfl (by decide) rfl hl.1 rfl (lv_room (Nat.le_of_ble_eq_true rfl)) dX3_measure_16 ⟨(Nat.le_of_ble_eq_true rfl), (Nat.le_of_ble_eq_true rfl)⟩) hP hD hS hA [1, 2] [0] rfl rfl (by decide) (by decide) (fun u16 H locs hP hD hS => ?_)
  have hP : va_P g.1 vwCl [(q4, .inl (g.2 0, 384, .inl f11)), (q5, .inl (g.2 0, 40, .inl (upd (upd (upd (upd (upd (upd (upd (upd (upd (upd (upd f6 1 0) 4 1) 6 x13) 7 1) 9 1) 14 1) 19 1) 24 1) 29 1) 34 1) 39 1))), (q1, .inr (5, [.ref q4, .ref q5]))] H := hP
  have hD : va_D A [(q4, .inl (g.2 0, 384, .inl f11)), (q5, .inl (g.2 0, 40, .inl (upd (upd (upd (upd (upd (upd (upd (upd (upd (upd (upd f6 1 0) 4 1) 6 x13) 7 1) 9 1) 14 1) 19 1) 24 1) 29 1) 34 1) 39 1))), (q1, .inr (5, [.ref q4, .ref q5]))] := hD
  refine lv_sipush (v := 20000) hx hb dX3_measure_19 (by decide) ?_
  refine lv_icmp_le (tgt := 27) hx hb dX3_measure_22 (by decide) (fun _ => ?_) (fun h => absurd (by decide) h)
  refine lv_iinc (v := 8) (lv' := [(1, .int 8), (0, .ref q1)]) hx hb dX3_measure_27 hl (k := 0) rfl (by decide) (by decide) rfl (fun ls hl => ?_)
  refine lv_goto (tgt := 2) hx hb dX3_measure_30 (by decide) ?_
  refine lv_iload_n hx hb dX3_measure_2 rfl (lv_at hl 0 rfl) ?_
  refine lv_bipush (v := 8) hx hb dX3_measure_3 (by decide) ?_
  refine lv_icmp_ge (tgt := 33) hx hb dX3_measure_5 (by decide) (fun _ => ?_) (fun h => absurd (by decide) h)
  refine lv_iconst (v := 1) hx hb dX3_measure_33 (by decide) ?_
  exact x_zret hx hb hr rfl rfl hlocks hP hD hS hAe hsz (Nat.le_of_ble_eq_true rfl) (Nat.le_of_ble_eq_true rfl) (fun _ => 0) [0, 1, 2] (by decide) rfl dX3_measure_34

set_option maxHeartbeats 4000000 in
set_option maxRecDepth 100000 in
theorem c242_X9_acceptIfFitting (l : Launch) (g : gG) (q1 q2 q10 q13 q14 q61 : Nat) (x22 : Int32) (w4 w5 w6 w8 w9 w51 w52 w53 w54 w55 w56 w57 w58 w59 w60 w62 : Value) (f15 : Nat → Int32) (f20 : Nat → Int32) (hf16 : f15 0 = 0) (hf17 : f15 2 = 0) (hf18 : f15 3 = 0) (hf19 : f15 5 = 1) (hf21 : f20 50 = x22) (hf23 : f20 48 = 0) (hf24 : f15 8 = 0) (hf26 : f15 10 = 0) (hf27 : f15 11 = 0) (hf28 : f15 12 = 0) (hf29 : f15 13 = 0) (hf30 : f15 15 = 0) (hf31 : f15 16 = 0) (hf32 : f15 17 = 0) (hf33 : f15 18 = 0) (hf34 : f15 20 = 0) (hf35 : f15 21 = 0) (hf36 : f15 22 = 0) (hf37 : f15 23 = 0) (hf38 : f15 25 = 0) (hf39 : f15 26 = 0) (hf40 : f15 27 = 0) (hf41 : f15 28 = 0) (hf42 : f15 30 = 0) (hf43 : f15 31 = 0) (hf44 : f15 32 = 0) (hf45 : f15 33 = 0) (hf46 : f15 35 = 0) (hf47 : f15 36 = 0) (hf48 : f15 37 = 0) (hf49 : f15 38 = 0) (h25 : x22 ≤ 20000) (sz : Nat) : Met l yX9_acceptIfFitting [Cond.code yX9_acceptIfFitting cX9_acceptIfFitting 2 none] ({ frames := 4, cells := 0, slots := 0, locals := 96 } : Room) (va_Pc [.ref q1, .ref q2] (PX g sz [(q61, .inr (10, [w62, .int 0, .int 0])), (q1, .inr (11, [.ref q61, w51, w52, w53, w54, w55, w56, w57, w58, w59, w60])), (q13, .inl (g.2 0, 384, .inl f20)), (q14, .inl (g.2 0, 40, .inl f15)), (q10, .inr (5, [.ref q13, .ref q14])), (q2, .inr (8, [.ref q10, w4, w5, w6, .int 0, w8, w9]))])) (QV g [(q61, .inr (10, [w62, .int 0, .int 0])), (q1, .inr (11, [.ref q61, w51, w52, w53, w54, w55, w56, w57, w58, w59, w60])), (q13, .inl (g.2 0, 384, .inl f20)), (q14, .inl (g.2 0, 40, .inl f15)), (q10, .inr (5, [.ref q13, .ref q14])), (q2, .inr (8, [.ref q10, w4, w5, w6, .int 0, w8, w9]))] sz (fun _ => [(q13, .inl (g.2 0, 384, .inl f20)), (q14, .inl (g.2 0, 40, .inl (upd (upd (upd (upd (upd (upd (upd (upd (upd (upd (upd f15 1 0) 4 1) 6 x22) 7 1) 9 1) 14 1) 19 1) 24 1) 29 1) 34 1) 39 1))), (q10, .inr (5, [.ref q13, .ref q14])), (q2, .inr (8, [.ref q10, w4, w5, w6, .int 0, w8, w9])), (q61, .inr (10, [w62, .int 1, .int 1])), (q1, .inr (11, [.ref q61, w51, w52, w53, w54, w55, w56, w57, .int 0, .int 0, w60]))])) 0 0 (va_A [(q61, .inr (10, [w62, .int 0, .int 0])), (q1, .inr (11, [.ref q61, w51, w52, w53, w54, w55, w56, w57, w58, w59, w60])), (q13, .inl (g.2 0, 384, .inl f20)), (q14, .inl (g.2 0, 40, .inl f15)), (q10, .inr (5, [.ref q13, .ref q14])), (q2, .inr (8, [.ref q10, w4, w5, w6, .int 0, w8, w9]))] sz) := by
  refine ofN (by decide) (Nat.le_of_ble_eq_true rfl) rfl ?_
  intro p e s m args below meth c A ls hAe hsz hx hb hml hr hlocks hin hown hE hP hD hA hS hl
  have hown : s.vm.findClass RX9 = some m.cls := hown
  refine lv_aload_n hx hb dX9_acceptIfFitting_0 rfl (lv_at hl 1 rfl) ?_
  refine gf_RX9_108 hx hb hown hE hP 5 rfl rfl dX9_acceptIfFitting_1 ?_
  refine g_i (wr := [(q61, .inr (10, [w62, .int 0, .int 0])), (q1, .inr (11, [.ref q61, w51, w52, w53, w54, w55, w56, w57, w58, w59, w60])), (q2, .inr (8, [.ref q10, w4, w5, w6, .int 0, w8, w9]))]) (rV (rest := []) hx hb hml hown hE hP hD 4 rfl rfl (c241_X3_measure l g q10 q13 q14 x22 f15 f20 (hf16) (hf17) (hf18) (hf19) (hf21) (hf23) (hf24) (hf26) (hf27) (hf28) (hf29) (hf30) (hf31) (hf32) (hf33) (hf34) (hf35) (hf36) (hf37) (hf38) (hf39) (hf40) (hf41) (hf42) (hf43) (hf44) (hf45) (hf46) (hf47) (hf48) (hf49) h25 s.heap.size) (kV_X3_measure hE (e694 hE) rfl rfl ⟨(Nat.le_of_ble_eq_true rfl), (Nat.le_of_ble_eq_true rfl)⟩) [2, 3, 4] rfl (by decide) rfl hl.1 rfl (lv_room (Nat.le_of_ble_eq_true rfl)) dX9_acceptIfFitting_4 ⟨(Nat.le_of_ble_eq_true rfl), (Nat.le_of_ble_eq_true rfl)⟩) hP hD hS hA [2, 3, 4] [0, 1, 5] rfl rfl (by decide) (by decide) (fun u1 H locs hP hD hS => ?_)
  have hP : va_P g.1 vwCl [(q61, .inr (10, [w62, .int 0, .int 0])), (q1, .inr (11, [.ref q61, w51, w52, w53, w54, w55, w56, w57, w58, w59, w60])), (q2, .inr (8, [.ref q10, w4, w5, w6, .int 0, w8, w9])), (q13, .inl (g.2 0, 384, .inl f20)), (q14, .inl (g.2 0, 40, .inl (upd (upd (upd (upd (upd (upd (upd (upd (upd (upd (upd f15 1 0) 4 1) 6 x22) 7 1) 9 1) 14 1) 19 1) 24 1) 29 1) 34 1) 39 1))), (q10, .inr (5, [.ref q13, .ref q14]))] H := hP
  have hD : va_D A [(q61, .inr (10, [w62, .int 0, .int 0])), (q1, .inr (11, [.ref q61, w51, w52, w53, w54, w55, w56, w57, w58, w59, w60])), (q2, .inr (8, [.ref q10, w4, w5, w6, .int 0, w8, w9])), (q13, .inl (g.2 0, 384, .inl f20)), (q14, .inl (g.2 0, 40, .inl (upd (upd (upd (upd (upd (upd (upd (upd (upd (upd (upd f15 1 0) 4 1) 6 x22) 7 1) 9 1) 14 1) 19 1) 24 1) 29 1) 34 1) 39 1))), (q10, .inr (5, [.ref q13, .ref q14]))] := hD
  refine lv_if_eq (tgt := 17) hx hb dX9_acceptIfFitting_7 (by decide) (fun h => absurd h (by decide)) (fun _ => ?_)
  refine lv_aload_n hx hb dX9_acceptIfFitting_10 rfl (lv_at hl 1 rfl) ?_
  refine g_i (wr := [(q61, .inr (10, [w62, .int 0, .int 0])), (q1, .inr (11, [.ref q61, w51, w52, w53, w54, w55, w56, w57, w58, w59, w60])), (q13, .inl (g.2 0, 384, .inl f20)), (q14, .inl (g.2 0, 40, .inl (upd (upd (upd (upd (upd (upd (upd (upd (upd (upd (upd f15 1 0) 4 1) 6 x22) 7 1) 9 1) 14 1) 19 1) 24 1) 29 1) 34 1) 39 1))), (q10, .inr (5, [.ref q13, .ref q14]))]) (rV (rest := []) hx hb hml hown hE hP hD 2 rfl rfl (c189_X6_hasFittingClips l g q2 (.ref q10) w4 w5 w6 w8 w9 H.size) (kV_X6_hasFittingClips hE (e703 hE) rfl rfl ⟨(Nat.le_of_ble_eq_true rfl), (Nat.le_of_ble_eq_true rfl)⟩) [2] rfl (by decide) rfl hl.1 rfl (lv_room (Nat.le_of_ble_eq_true rfl)) dX9_acceptIfFitting_11 ⟨(Nat.le_of_ble_eq_true rfl), (Nat.le_of_ble_eq_true rfl)⟩) hP hD hS hA [2] [0, 1, 3, 4, 5] rfl rfl (by decide) (by decide) (fun u2 H locs hP hD hS => ?_)
  have hP : va_P g.1 vwCl [(q61, .inr (10, [w62, .int 0, .int 0])), (q1, .inr (11, [.ref q61, w51, w52, w53, w54, w55, w56, w57, w58, w59, w60])), (q13, .inl (g.2 0, 384, .inl f20)), (q14, .inl (g.2 0, 40, .inl (upd (upd (upd (upd (upd (upd (upd (upd (upd (upd (upd f15 1 0) 4 1) 6 x22) 7 1) 9 1) 14 1) 19 1) 24 1) 29 1) 34 1) 39 1))), (q10, .inr (5, [.ref q13, .ref q14])), (q2, .inr (8, [.ref q10, w4, w5, w6, .int 0, w8, w9]))] H := hP
  have hD : va_D A [(q61, .inr (10, [w62, .int 0, .int 0])), (q1, .inr (11, [.ref q61, w51, w52, w53, w54, w55, w56, w57, w58, w59, w60])), (q13, .inl (g.2 0, 384, .inl f20)), (q14, .inl (g.2 0, 40, .inl (upd (upd (upd (upd (upd (upd (upd (upd (upd (upd (upd f15 1 0) 4 1) 6 x22) 7 1) 9 1) 14 1) 19 1) 24 1) 29 1) 34 1) 39 1))), (q10, .inr (5, [.ref q13, .ref q14])), (q2, .inr (8, [.ref q10, w4, w5, w6, .int 0, w8, w9]))] := hD
  refine lv_if_ne (tgt := 28) hx hb dX9_acceptIfFitting_14 (by decide) (fun _ => ?_) (fun h => absurd h (by decide))
  refine lv_aload_n hx hb dX9_acceptIfFitting_28 rfl (lv_at hl 0 rfl) ?_
  refine g_v (wr := [(q13, .inl (g.2 0, 384, .inl f20)), (q14, .inl (g.2 0, 40, .inl (upd (upd (upd (upd (upd (upd (upd (upd (upd (upd (upd f15 1 0) 4 1) 6 x22) 7 1) 9 1) 14 1) 19 1) 24 1) 29 1) 34 1) 39 1))), (q10, .inr (5, [.ref q13, .ref q14])), (q2, .inr (8, [.ref q10, w4, w5, w6, .int 0, w8, w9]))]) (rV (rest := []) hx hb hml hown hE hP hD 1 rfl rfl (c191_X9_accept l g q1 q61 w51 w52 w53 w54 w55 w56 w57 w58 w59 w60 w62 H.size) (kV_X9_accept hE (e718 hE) rfl rfl ⟨(Nat.le_of_ble_eq_true rfl), (Nat.le_of_ble_eq_true rfl)⟩) [0, 1] rfl (by decide) rfl hl.1 rfl (lv_room (Nat.le_of_ble_eq_true rfl)) dX9_acceptIfFitting_29 ⟨(Nat.le_of_ble_eq_true rfl), (Nat.le_of_ble_eq_true rfl)⟩) hP hD hS hA [0, 1] [2, 3, 4, 5] rfl rfl (by decide) (by decide) (fun u3 H locs hP hD hS => ?_)
  have hP : va_P g.1 vwCl [(q13, .inl (g.2 0, 384, .inl f20)), (q14, .inl (g.2 0, 40, .inl (upd (upd (upd (upd (upd (upd (upd (upd (upd (upd (upd f15 1 0) 4 1) 6 x22) 7 1) 9 1) 14 1) 19 1) 24 1) 29 1) 34 1) 39 1))), (q10, .inr (5, [.ref q13, .ref q14])), (q2, .inr (8, [.ref q10, w4, w5, w6, .int 0, w8, w9])), (q61, .inr (10, [w62, .int 1, .int 1])), (q1, .inr (11, [.ref q61, w51, w52, w53, w54, w55, w56, w57, .int 0, .int 0, w60]))] H := hP
  have hD : va_D A [(q13, .inl (g.2 0, 384, .inl f20)), (q14, .inl (g.2 0, 40, .inl (upd (upd (upd (upd (upd (upd (upd (upd (upd (upd (upd f15 1 0) 4 1) 6 x22) 7 1) 9 1) 14 1) 19 1) 24 1) 29 1) 34 1) 39 1))), (q10, .inr (5, [.ref q13, .ref q14])), (q2, .inr (8, [.ref q10, w4, w5, w6, .int 0, w8, w9])), (q61, .inr (10, [w62, .int 1, .int 1])), (q1, .inr (11, [.ref q61, w51, w52, w53, w54, w55, w56, w57, .int 0, .int 0, w60]))] := hD
  exact x_vret hx hb hr hlocks hP hD hS hAe hsz (Nat.le_of_ble_eq_true rfl) (Nat.le_of_ble_eq_true rfl) (fun _ => 0) [0, 1, 2, 3, 4, 5] (by decide) rfl dX9_acceptIfFitting_32

set_option maxHeartbeats 4000000 in
set_option maxRecDepth 100000 in
theorem c243_X9_addOneItem (l : Launch) (g : gG) (q1 q16 q20 q23 q25 q33 q34 q35 q36 q44 q45 q46 q47 q50 q51 q54 q55 q62 q63 q68 q69 : Nat) (x2 x3 x4 : Int32) (w6 w7 w8 w9 w10 w11 w12 w13 w14 w15 w30 w31 w32 w66 w67 : Value) (f21 : Nat → Option Nat) (f56 : Nat → Int32) (f57 : Nat → Int32) (f70 : Nat → Int32) (f71 : Nat → Int32) (hf22 : f21 1 = some q23) (hf24 : f21 0 = some q25) (hf72 : f57 5 = 0) (hf73 : f56 48 = 0) (hf74 : f57 0 = 0) (hf75 : f57 2 = 0) (hf76 : f57 3 = 0) (hf77 : f57 8 = 0) (hf79 : f57 10 = 0) (hf80 : f57 11 = 0) (hf81 : f57 12 = 0) (hf82 : f57 13 = 0) (hf83 : f57 15 = 0) (hf84 : f57 16 = 0) (hf85 : f57 17 = 0) (hf86 : f57 18 = 0) (hf87 : f57 20 = 0) (hf88 : f57 21 = 0) (hf89 : f57 22 = 0) (hf90 : f57 23 = 0) (hf91 : f57 25 = 0) (hf92 : f57 26 = 0) (hf93 : f57 27 = 0) (hf94 : f57 28 = 0) (hf95 : f57 30 = 0) (hf96 : f57 31 = 0) (hf97 : f57 32 = 0) (hf98 : f57 33 = 0) (hf99 : f57 35 = 0) (hf100 : f57 36 = 0) (hf101 : f57 37 = 0) (hf102 : f57 38 = 0) (h78 : x3 ≤ 20000) (sz : Nat) : Met l yX9_addOneItem [Cond.code yX9_addOneItem cX9_addOneItem 7 (some .int)] ({ frames := 5, cells := 0, slots := 0, locals := 148 } : Room) (va_Pc [.ref q1, .int 1, .int 0, .int x2, .int x3, .int x4] (PX g sz [(q36, .inl (g.2 0, 20, .inl f71)), (q47, .inl (g.2 0, 20, .inl f71)), (q35, .inl (g.2 0, 60, .inl f56)), (q46, .inl (g.2 0, 60, .inl f56)), (q69, .inl (g.2 0, 10, .inl f70)), (q63, .inl (g.2 0, 10, .inl f70)), (q68, .inl (g.2 0, 10, .inl f56)), (q62, .inl (g.2 0, 10, .inl f56)), (q34, .inr (9, [.ref q68, .ref q69, w66, w67])), (q45, .inr (9, [.ref q62, .ref q63, .int 1, .int 0])), (q55, .inl (g.2 0, 40, .inl f57)), (q51, .inl (g.2 0, 40, .inl f57)), (q54, .inl (g.2 0, 384, .inl f56)), (q50, .inl (g.2 0, 384, .inl f56)), (q33, .inr (5, [.ref q54, .ref q55])), (q44, .inr (5, [.ref q50, .ref q51])), (q25, .inr (8, [.ref q44, .ref q45, .ref q46, .ref q47, .int 0, .int 4, .int 0])), (q23, .inr (8, [.ref q33, .ref q34, .ref q35, .ref q36, w30, w31, w32])), (q20, .inl (g.2 3, 10, .inr (.inr (.inr (.inr f21))))), (q16, .inr (10, [.ref q20, .int 0, .int 0])), (q1, .inr (11, [.ref q16, w6, w7, w8, w9, w10, w11, w12, w13, w14, w15]))])) (QI g [(q36, .inl (g.2 0, 20, .inl f71)), (q47, .inl (g.2 0, 20, .inl f71)), (q35, .inl (g.2 0, 60, .inl f56)), (q46, .inl (g.2 0, 60, .inl f56)), (q69, .inl (g.2 0, 10, .inl f70)), (q63, .inl (g.2 0, 10, .inl f70)), (q68, .inl (g.2 0, 10, .inl f56)), (q62, .inl (g.2 0, 10, .inl f56)), (q34, .inr (9, [.ref q68, .ref q69, w66, w67])), (q45, .inr (9, [.ref q62, .ref q63, .int 1, .int 0])), (q55, .inl (g.2 0, 40, .inl f57)), (q51, .inl (g.2 0, 40, .inl f57)), (q54, .inl (g.2 0, 384, .inl f56)), (q50, .inl (g.2 0, 384, .inl f56)), (q33, .inr (5, [.ref q54, .ref q55])), (q44, .inr (5, [.ref q50, .ref q51])), (q25, .inr (8, [.ref q44, .ref q45, .ref q46, .ref q47, .int 0, .int 4, .int 0])), (q23, .inr (8, [.ref q33, .ref q34, .ref q35, .ref q36, w30, w31, w32])), (q20, .inl (g.2 3, 10, .inr (.inr (.inr (.inr f21))))), (q16, .inr (10, [.ref q20, .int 0, .int 0])), (q1, .inr (11, [.ref q16, w6, w7, w8, w9, w10, w11, w12, w13, w14, w15]))] sz 1 (fun _ => [(q20, .inl (g.2 3, 10, .inr (.inr (.inr (.inr f21))))), (q25, .inr (8, [.ref q44, .ref q45, .ref q46, .ref q47, .int 0, .int 4, .int 0])), (q44, .inr (5, [.ref q50, .ref q51])), (q50, .inl (g.2 0, 384, .inl f56)), (q51, .inl (g.2 0, 40, .inl f57)), (q34, .inr (9, [.ref q68, .ref q69, .int 1, .int 0])), (q45, .inr (9, [.ref q62, .ref q63, .int 1, .int 0])), (q68, .inl (g.2 0, 10, .inl f56)), (q62, .inl (g.2 0, 10, .inl f56)), (q69, .inl (g.2 0, 10, .inl f70)), (q63, .inl (g.2 0, 10, .inl f70)), (q35, .inl (g.2 0, 60, .inl f56)), (q46, .inl (g.2 0, 60, .inl f56)), (q36, .inl (g.2 0, 20, .inl f71)), (q47, .inl (g.2 0, 20, .inl f71)), (q54, .inl (g.2 0, 384, .inl (upd (upd (upd f56 49 x2) 50 x3) 51 x4))), (q23, .inr (8, [.ref q33, .ref q34, .ref q35, .ref q36, .int 0, .int 4, .int 0])), (q16, .inr (10, [.ref q20, .int 1, .int 1])), (q1, .inr (11, [.ref q16, w6, w7, w8, w9, w10, w11, w12, .int 0, .int 0, w15])), (q55, .inl (g.2 0, 40, .inl (upd (upd (upd (upd (upd (upd (upd (upd (upd (upd (upd (upd f57 5 1) 1 0) 4 1) 6 x3) 7 1) 9 1) 14 1) 19 1) 24 1) 29 1) 34 1) 39 1))), (q33, .inr (5, [.ref q54, .ref q55]))])) 0 0 (va_A [(q36, .inl (g.2 0, 20, .inl f71)), (q47, .inl (g.2 0, 20, .inl f71)), (q35, .inl (g.2 0, 60, .inl f56)), (q46, .inl (g.2 0, 60, .inl f56)), (q69, .inl (g.2 0, 10, .inl f70)), (q63, .inl (g.2 0, 10, .inl f70)), (q68, .inl (g.2 0, 10, .inl f56)), (q62, .inl (g.2 0, 10, .inl f56)), (q34, .inr (9, [.ref q68, .ref q69, w66, w67])), (q45, .inr (9, [.ref q62, .ref q63, .int 1, .int 0])), (q55, .inl (g.2 0, 40, .inl f57)), (q51, .inl (g.2 0, 40, .inl f57)), (q54, .inl (g.2 0, 384, .inl f56)), (q50, .inl (g.2 0, 384, .inl f56)), (q33, .inr (5, [.ref q54, .ref q55])), (q44, .inr (5, [.ref q50, .ref q51])), (q25, .inr (8, [.ref q44, .ref q45, .ref q46, .ref q47, .int 0, .int 4, .int 0])), (q23, .inr (8, [.ref q33, .ref q34, .ref q35, .ref q36, w30, w31, w32])), (q20, .inl (g.2 3, 10, .inr (.inr (.inr (.inr f21))))), (q16, .inr (10, [.ref q20, .int 0, .int 0])), (q1, .inr (11, [.ref q16, w6, w7, w8, w9, w10, w11, w12, w13, w14, w15]))] sz) := by
  refine ofN (by decide) (Nat.le_of_ble_eq_true rfl) rfl ?_
  intro p e s m args below meth c A ls hAe hsz hx hb hml hr hlocks hin hown hE hP hD hA hS hl
  have hown : s.vm.findClass RX9 = some m.cls := hown
  refine lv_aload_n hx hb dX9_addOneItem_0 rfl (lv_at hl 0 rfl) ?_
  refine gf_RX9_12 hx hb hown hE hP 20 rfl rfl dX9_addOneItem_1 ?_
  refine g_r (wr := [(q1, .inr (11, [.ref q16, w6, w7, w8, w9, w10, w11, w12, w13, w14, w15]))]) (rV (rest := []) hx hb hml hown hE hP hD 19 rfl rfl (c127_X8_draft l g q16 q20 q23 q25 q33 q44 q50 q54 q51 q55 q34 q45 q62 q68 q63 q69 q46 q35 q47 q36 (.int 0) w30 w31 w32 w66 w67 f21 f56 f57 f70 f71 (hf22) (hf24) s.heap.size) (kV_X8_draft hE (e659 hE) rfl rfl ⟨(Nat.le_of_ble_eq_true rfl), (Nat.le_of_ble_eq_true rfl)⟩) [0, 1, 2, 3, 4, 5, 6, 7, 8, 9, 10, 11, 12, 13, 14, 15, 16, 17, 18, 19] rfl (by decide) rfl hl.1 rfl (lv_room (Nat.le_of_ble_eq_true rfl)) dX9_addOneItem_4 ⟨(Nat.le_of_ble_eq_true rfl), (Nat.le_of_ble_eq_true rfl)⟩) hP hD hS hA [0, 1, 2, 3, 4, 5, 6, 7, 8, 9, 10, 11, 12, 13, 14, 15, 16, 17, 18, 19] [20] rfl rfl (by decide) (by decide) (fun u1 H locs hP hD hS => ?_)
  have hP : va_P g.1 vwCl [(q1, .inr (11, [.ref q16, w6, w7, w8, w9, w10, w11, w12, w13, w14, w15])), (q20, .inl (g.2 3, 10, .inr (.inr (.inr (.inr f21))))), (q16, .inr (10, [.ref q20, .int 0, .int 0])), (q25, .inr (8, [.ref q44, .ref q45, .ref q46, .ref q47, .int 0, .int 4, .int 0])), (q23, .inr (8, [.ref q33, .ref q34, .ref q35, .ref q36, .int 0, .int 4, .int 0])), (q33, .inr (5, [.ref q54, .ref q55])), (q44, .inr (5, [.ref q50, .ref q51])), (q54, .inl (g.2 0, 384, .inl f56)), (q50, .inl (g.2 0, 384, .inl f56)), (q55, .inl (g.2 0, 40, .inl f57)), (q51, .inl (g.2 0, 40, .inl f57)), (q34, .inr (9, [.ref q68, .ref q69, .int 1, .int 0])), (q45, .inr (9, [.ref q62, .ref q63, .int 1, .int 0])), (q68, .inl (g.2 0, 10, .inl f56)), (q62, .inl (g.2 0, 10, .inl f56)), (q69, .inl (g.2 0, 10, .inl f70)), (q63, .inl (g.2 0, 10, .inl f70)), (q35, .inl (g.2 0, 60, .inl f56)), (q46, .inl (g.2 0, 60, .inl f56)), (q36, .inl (g.2 0, 20, .inl f71)), (q47, .inl (g.2 0, 20, .inl f71))] H := hP
  have hD : va_D A [(q1, .inr (11, [.ref q16, w6, w7, w8, w9, w10, w11, w12, w13, w14, w15])), (q20, .inl (g.2 3, 10, .inr (.inr (.inr (.inr f21))))), (q16, .inr (10, [.ref q20, .int 0, .int 0])), (q25, .inr (8, [.ref q44, .ref q45, .ref q46, .ref q47, .int 0, .int 4, .int 0])), (q23, .inr (8, [.ref q33, .ref q34, .ref q35, .ref q36, .int 0, .int 4, .int 0])), (q33, .inr (5, [.ref q54, .ref q55])), (q44, .inr (5, [.ref q50, .ref q51])), (q54, .inl (g.2 0, 384, .inl f56)), (q50, .inl (g.2 0, 384, .inl f56)), (q55, .inl (g.2 0, 40, .inl f57)), (q51, .inl (g.2 0, 40, .inl f57)), (q34, .inr (9, [.ref q68, .ref q69, .int 1, .int 0])), (q45, .inr (9, [.ref q62, .ref q63, .int 1, .int 0])), (q68, .inl (g.2 0, 10, .inl f56)), (q62, .inl (g.2 0, 10, .inl f56)), (q69, .inl (g.2 0, 10, .inl f70)), (q63, .inl (g.2 0, 10, .inl f70)), (q35, .inl (g.2 0, 60, .inl f56)), (q46, .inl (g.2 0, 60, .inl f56)), (q36, .inl (g.2 0, 20, .inl f71)), (q47, .inl (g.2 0, 20, .inl f71))] := hD
  refine lv_astore (lv' := [(6, .ref q23), (0, .ref q1), (1, .int 1), (2, .int 0), (3, .int x2), (4, .int x3), (5, .int x4)]) hx hb dX9_addOneItem_7 hl (by decide) rfl (fun ls hl => ?_)
  refine lv_aload hx hb dX9_addOneItem_9 (lv_at hl 0 rfl) ?_
  refine lv_iload_n hx hb dX9_addOneItem_11 rfl (lv_at hl 2 rfl) ?_
  refine lv_iload_n hx hb dX9_addOneItem_12 rfl (lv_at hl 3 rfl) ?_
  refine lv_iload_n hx hb dX9_addOneItem_13 rfl (lv_at hl 4 rfl) ?_
  refine lv_iload hx hb dX9_addOneItem_14 (lv_at hl 5 rfl) ?_
  refine lv_iload hx hb dX9_addOneItem_16 (lv_at hl 6 rfl) ?_
  refine g_v (wr := [(q1, .inr (11, [.ref q16, w6, w7, w8, w9, w10, w11, w12, w13, w14, w15])), (q20, .inl (g.2 3, 10, .inr (.inr (.inr (.inr f21))))), (q16, .inr (10, [.ref q20, .int 0, .int 0])), (q25, .inr (8, [.ref q44, .ref q45, .ref q46, .ref q47, .int 0, .int 4, .int 0])), (q44, .inr (5, [.ref q50, .ref q51])), (q50, .inl (g.2 0, 384, .inl f56)), (q51, .inl (g.2 0, 40, .inl f57)), (q34, .inr (9, [.ref q68, .ref q69, .int 1, .int 0])), (q45, .inr (9, [.ref q62, .ref q63, .int 1, .int 0])), (q68, .inl (g.2 0, 10, .inl f56)), (q62, .inl (g.2 0, 10, .inl f56)), (q69, .inl (g.2 0, 10, .inl f70)), (q63, .inl (g.2 0, 10, .inl f70)), (q35, .inl (g.2 0, 60, .inl f56)), (q46, .inl (g.2 0, 60, .inl f56)), (q36, .inl (g.2 0, 20, .inl f71)), (q47, .inl (g.2 0, 20, .inl f71))]) (rS (rest := []) hx hb hml hown hE hP hD (c229_X9_putItem l g q23 q33 q55 q54 x2 x3 x4 (.ref q34) (.ref q35) (.ref q36) (.int 0) (.int 4) (.int 0) f57 f56 (hf72) (hf73) H.size) (kS_X9_putItem hE (e665 hE) rfl rfl ⟨(Nat.le_of_ble_eq_true rfl), (Nat.le_of_ble_eq_true rfl)⟩) [7, 9, 5, 4] rfl (by decide) rfl hl.1 rfl (lv_room (Nat.le_of_ble_eq_true rfl)) dX9_addOneItem_18 ⟨(Nat.le_of_ble_eq_true rfl), (Nat.le_of_ble_eq_true rfl)⟩) hP hD hS hA [7, 9, 5, 4] [0, 1, 2, 3, 6, 8, 10, 11, 12, 13, 14, 15, 16, 17, 18, 19, 20] rfl rfl (by decide) (by decide) (fun u2 H locs hP hD hS => ?_)
  have hP : va_P g.1 vwCl [(q1, .inr (11, [.ref q16, w6, w7, w8, w9, w10, w11, w12, w13, w14, w15])), (q20, .inl (g.2 3, 10, .inr (.inr (.inr (.inr f21))))), (q16, .inr (10, [.ref q20, .int 0, .int 0])), (q25, .inr (8, [.ref q44, .ref q45, .ref q46, .ref q47, .int 0, .int 4, .int 0])), (q44, .inr (5, [.ref q50, .ref q51])), (q50, .inl (g.2 0, 384, .inl f56)), (q51, .inl (g.2 0, 40, .inl f57)), (q34, .inr (9, [.ref q68, .ref q69, .int 1, .int 0])), (q45, .inr (9, [.ref q62, .ref q63, .int 1, .int 0])), (q68, .inl (g.2 0, 10, .inl f56)), (q62, .inl (g.2 0, 10, .inl f56)), (q69, .inl (g.2 0, 10, .inl f70)), (q63, .inl (g.2 0, 10, .inl f70)), (q35, .inl (g.2 0, 60, .inl f56)), (q46, .inl (g.2 0, 60, .inl f56)), (q36, .inl (g.2 0, 20, .inl f71)), (q47, .inl (g.2 0, 20, .inl f71)), (q23, .inr (8, [.ref q33, .ref q34, .ref q35, .ref q36, .int 0, .int 4, .int 0])), (q54, .inl (g.2 0, 384, .inl (upd (upd (upd f56 49 x2) 50 x3) 51 x4))), (q55, .inl (g.2 0, 40, .inl (upd f57 5 1))), (q33, .inr (5, [.ref q54, .ref q55]))] H := hP
  have hD : va_D A [(q1, .inr (11, [.ref q16, w6, w7, w8, w9, w10, w11, w12, w13, w14, w15])), (q20, .inl (g.2 3, 10, .inr (.inr (.inr (.inr f21))))), (q16, .inr (10, [.ref q20, .int 0, .int 0])), (q25, .inr (8, [.ref q44, .ref q45, .ref q46, .ref q47, .int 0, .int 4, .int 0])), (q44, .inr (5, [.ref q50, .ref q51])), (q50, .inl (g.2 0, 384, .inl f56)), (q51, .inl (g.2 0, 40, .inl f57)), (q34, .inr (9, [.ref q68, .ref q69, .int 1, .int 0])), (q45, .inr (9, [.ref q62, .ref q63, .int 1, .int 0])), (q68, .inl (g.2 0, 10, .inl f56)), (q62, .inl (g.2 0, 10, .inl f56)), (q69, .inl (g.2 0, 10, .inl f70)), (q63, .inl (g.2 0, 10, .inl f70)), (q35, .inl (g.2 0, 60, .inl f56)), (q46, .inl (g.2 0, 60, .inl f56)), (q36, .inl (g.2 0, 20, .inl f71)), (q47, .inl (g.2 0, 20, .inl f71)), (q23, .inr (8, [.ref q33, .ref q34, .ref q35, .ref q36, .int 0, .int 4, .int 0])), (q54, .inl (g.2 0, 384, .inl (upd (upd (upd f56 49 x2) 50 x3) 51 x4))), (q55, .inl (g.2 0, 40, .inl (upd f57 5 1))), (q33, .inr (5, [.ref q54, .ref q55]))] := hD
  refine lv_aload_n hx hb dX9_addOneItem_21 rfl (lv_at hl 1 rfl) ?_
  refine lv_aload hx hb dX9_addOneItem_22 (lv_at hl 0 rfl) ?_
  refine g_v (wr := [(q20, .inl (g.2 3, 10, .inr (.inr (.inr (.inr f21))))), (q25, .inr (8, [.ref q44, .ref q45, .ref q46, .ref q47, .int 0, .int 4, .int 0])), (q44, .inr (5, [.ref q50, .ref q51])), (q50, .inl (g.2 0, 384, .inl f56)), (q51, .inl (g.2 0, 40, .inl f57)), (q34, .inr (9, [.ref q68, .ref q69, .int 1, .int 0])), (q45, .inr (9, [.ref q62, .ref q63, .int 1, .int 0])), (q68, .inl (g.2 0, 10, .inl f56)), (q62, .inl (g.2 0, 10, .inl f56)), (q69, .inl (g.2 0, 10, .inl f70)), (q63, .inl (g.2 0, 10, .inl f70)), (q35, .inl (g.2 0, 60, .inl f56)), (q46, .inl (g.2 0, 60, .inl f56)), (q36, .inl (g.2 0, 20, .inl f71)), (q47, .inl (g.2 0, 20, .inl f71))]) (rV (rest := []) hx hb hml hown hE hP hD 0 rfl rfl (c242_X9_acceptIfFitting l g q1 q23 q33 q54 q55 q16 x3 (.ref q34) (.ref q35) (.ref q36) (.int 4) (.int 0) w6 w7 w8 w9 w10 w11 w12 w13 w14 w15 (.ref q20) (upd f57 5 1) (upd (upd (upd f56 49 x2) 50 x3) 51 x4) (((pk_un (by decide)).trans hf74)) (((pk_un (by decide)).trans hf75)) (((pk_un (by decide)).trans hf76)) (pk_us) (((pk_un (by decide)).trans pk_us)) (((pk_un (by decide)).trans ((pk_un (by decide)).trans ((pk_un (by decide)).trans hf73)))) (((pk_un (by decide)).trans hf77)) (((pk_un (by decide)).trans hf79)) (((pk_un (by decide)).trans hf80)) (((pk_un (by decide)).trans hf81)) (((pk_un (by decide)).trans hf82)) (((pk_un (by decide)).trans hf83)) (((pk_un (by decide)).trans hf84)) (((pk_un (by decide)).trans hf85)) (((pk_un (by decide)).trans hf86)) (((pk_un (by decide)).trans hf87)) (((pk_un (by decide)).trans hf88)) (((pk_un (by decide)).trans hf89)) (((pk_un (by decide)).trans hf90)) (((pk_un (by decide)).trans hf91)) (((pk_un (by decide)).trans hf92)) (((pk_un (by decide)).trans hf93)) (((pk_un (by decide)).trans hf94)) (((pk_un (by decide)).trans hf95)) (((pk_un (by decide)).trans hf96)) (((pk_un (by decide)).trans hf97)) (((pk_un (by decide)).trans hf98)) (((pk_un (by decide)).trans hf99)) (((pk_un (by decide)).trans hf100)) (((pk_un (by decide)).trans hf101)) (((pk_un (by decide)).trans hf102)) h78 H.size) (kV_X9_acceptIfFitting hE (e690 hE) rfl rfl ⟨(Nat.le_of_ble_eq_true rfl), (Nat.le_of_ble_eq_true rfl)⟩) [2, 0, 18, 19, 20, 17] rfl (by decide) rfl hl.1 rfl (lv_room (Nat.le_of_ble_eq_true rfl)) dX9_addOneItem_24 ⟨(Nat.le_of_ble_eq_true rfl), (Nat.le_of_ble_eq_true rfl)⟩) hP hD hS hA [2, 0, 18, 19, 20, 17] [1, 3, 4, 5, 6, 7, 8, 9, 10, 11, 12, 13, 14, 15, 16] rfl rfl (by decide) (by decide) (fun u3 H locs hP hD hS => ?_)
  have hP : va_P g.1 vwCl [(q20, .inl (g.2 3, 10, .inr (.inr (.inr (.inr f21))))), (q25, .inr (8, [.ref q44, .ref q45, .ref q46, .ref q47, .int 0, .int 4, .int 0])), (q44, .inr (5, [.ref q50, .ref q51])), (q50, .inl (g.2 0, 384, .inl f56)), (q51, .inl (g.2 0, 40, .inl f57)), (q34, .inr (9, [.ref q68, .ref q69, .int 1, .int 0])), (q45, .inr (9, [.ref q62, .ref q63, .int 1, .int 0])), (q68, .inl (g.2 0, 10, .inl f56)), (q62, .inl (g.2 0, 10, .inl f56)), (q69, .inl (g.2 0, 10, .inl f70)), (q63, .inl (g.2 0, 10, .inl f70)), (q35, .inl (g.2 0, 60, .inl f56)), (q46, .inl (g.2 0, 60, .inl f56)), (q36, .inl (g.2 0, 20, .inl f71)), (q47, .inl (g.2 0, 20, .inl f71)), (q54, .inl (g.2 0, 384, .inl (upd (upd (upd f56 49 x2) 50 x3) 51 x4))), (q55, .inl (g.2 0, 40, .inl (upd (upd (upd (upd (upd (upd (upd (upd (upd (upd (upd (upd f57 5 1) 1 0) 4 1) 6 x3) 7 1) 9 1) 14 1) 19 1) 24 1) 29 1) 34 1) 39 1))), (q33, .inr (5, [.ref q54, .ref q55])), (q23, .inr (8, [.ref q33, .ref q34, .ref q35, .ref q36, .int 0, .int 4, .int 0])), (q16, .inr (10, [.ref q20, .int 1, .int 1])), (q1, .inr (11, [.ref q16, w6, w7, w8, w9, w10, w11, w12, .int 0, .int 0, w15]))] H := hP
  have hD : va_D A [(q20, .inl (g.2 3, 10, .inr (.inr (.inr (.inr f21))))), (q25, .inr (8, [.ref q44, .ref q45, .ref q46, .ref q47, .int 0, .int 4, .int 0])), (q44, .inr (5, [.ref q50, .ref q51])), (q50, .inl (g.2 0, 384, .inl f56)), (q51, .inl (g.2 0, 40, .inl f57)), (q34, .inr (9, [.ref q68, .ref q69, .int 1, .int 0])), (q45, .inr (9, [.ref q62, .ref q63, .int 1, .int 0])), (q68, .inl (g.2 0, 10, .inl f56)), (q62, .inl (g.2 0, 10, .inl f56)), (q69, .inl (g.2 0, 10, .inl f70)), (q63, .inl (g.2 0, 10, .inl f70)), (q35, .inl (g.2 0, 60, .inl f56)), (q46, .inl (g.2 0, 60, .inl f56)), (q36, .inl (g.2 0, 20, .inl f71)), (q47, .inl (g.2 0, 20, .inl f71)), (q54, .inl (g.2 0, 384, .inl (upd (upd (upd f56 49 x2) 50 x3) 51 x4))), (q55, .inl (g.2 0, 40, .inl (upd (upd (upd (upd (upd (upd (upd (upd (upd (upd (upd (upd f57 5 1) 1 0) 4 1) 6 x3) 7 1) 9 1) 14 1) 19 1) 24 1) 29 1) 34 1) 39 1))), (q33, .inr (5, [.ref q54, .ref q55])), (q23, .inr (8, [.ref q33, .ref q34, .ref q35, .ref q36, .int 0, .int 4, .int 0])), (q16, .inr (10, [.ref q20, .int 1, .int 1])), (q1, .inr (11, [.ref q16, w6, w7, w8, w9, w10, w11, w12, .int 0, .int 0, w15]))] := hD
  refine lv_aload hx hb dX9_addOneItem_27 (lv_at hl 0 rfl) ?_
  refine gf_RX9_108 hx hb hown hE hP 18 rfl rfl dX9_addOneItem_29 ?_
  refine lv_iload_n hx hb dX9_addOneItem_32 rfl (lv_at hl 2 rfl) ?_
  refine lv_iconst (v := 0) hx hb dX9_addOneItem_33 (by decide) ?_
  refine g_i (wr := [(q20, .inl (g.2 3, 10, .inr (.inr (.inr (.inr f21))))), (q25, .inr (8, [.ref q44, .ref q45, .ref q46, .ref q47, .int 0, .int 4, .int 0])), (q44, .inr (5, [.ref q50, .ref q51])), (q50, .inl (g.2 0, 384, .inl f56)), (q51, .inl (g.2 0, 40, .inl f57)), (q34, .inr (9, [.ref q68, .ref q69, .int 1, .int 0])), (q45, .inr (9, [.ref q62, .ref q63, .int 1, .int 0])), (q68, .inl (g.2 0, 10, .inl f56)), (q62, .inl (g.2 0, 10, .inl f56)), (q69, .inl (g.2 0, 10, .inl f70)), (q63, .inl (g.2 0, 10, .inl f70)), (q35, .inl (g.2 0, 60, .inl f56)), (q46, .inl (g.2 0, 60, .inl f56)), (q36, .inl (g.2 0, 20, .inl f71)), (q47, .inl (g.2 0, 20, .inl f71)), (q54, .inl (g.2 0, 384, .inl (upd (upd (upd f56 49 x2) 50 x3) 51 x4))), (q23, .inr (8, [.ref q33, .ref q34, .ref q35, .ref q36, .int 0, .int 4, .int 0])), (q16, .inr (10, [.ref q20, .int 1, .int 1])), (q1, .inr (11, [.ref q16, w6, w7, w8, w9, w10, w11, w12, .int 0, .int 0, w15]))]) (rV (rest := []) hx hb hml hown hE hP hD 17 rfl rfl (c232_X3_figure l g q33 q55 (.ref q54) (upd (upd (upd (upd (upd (upd (upd (upd (upd (upd (upd (upd f57 5 1) 1 0) 4 1) 6 x3) 7 1) 9 1) 14 1) 19 1) 24 1) 29 1) 34 1) 39 1) (((pk_un (by decide)).trans ((pk_un (by decide)).trans ((pk_un (by decide)).trans ((pk_un (by decide)).trans ((pk_un (by decide)).trans ((pk_un (by decide)).trans ((pk_un (by decide)).trans ((pk_un (by decide)).trans ((pk_un (by decide)).trans ((pk_un (by decide)).trans ((pk_un (by decide)).trans pk_us)))))))))))) H.size) (kV_X3_figure hE (e668 hE) rfl rfl ⟨(Nat.le_of_ble_eq_true rfl), (Nat.le_of_ble_eq_true rfl)⟩) [16, 17] rfl (by decide) rfl hl.1 rfl (lv_room (Nat.le_of_ble_eq_true rfl)) dX9_addOneItem_34 ⟨(Nat.le_of_ble_eq_true rfl), (Nat.le_of_ble_eq_true rfl)⟩) hP hD hS hA [16, 17] [0, 1, 2, 3, 4, 5, 6, 7, 8, 9, 10, 11, 12, 13, 14, 15, 18, 19, 20] rfl rfl (by decide) (by decide) (fun u4 H locs hP hD hS => ?_)
  have hP : va_P g.1 vwCl [(q20, .inl (g.2 3, 10, .inr (.inr (.inr (.inr f21))))), (q25, .inr (8, [.ref q44, .ref q45, .ref q46, .ref q47, .int 0, .int 4, .int 0])), (q44, .inr (5, [.ref q50, .ref q51])), (q50, .inl (g.2 0, 384, .inl f56)), (q51, .inl (g.2 0, 40, .inl f57)), (q34, .inr (9, [.ref q68, .ref q69, .int 1, .int 0])), (q45, .inr (9, [.ref q62, .ref q63, .int 1, .int 0])), (q68, .inl (g.2 0, 10, .inl f56)), (q62, .inl (g.2 0, 10, .inl f56)), (q69, .inl (g.2 0, 10, .inl f70)), (q63, .inl (g.2 0, 10, .inl f70)), (q35, .inl (g.2 0, 60, .inl f56)), (q46, .inl (g.2 0, 60, .inl f56)), (q36, .inl (g.2 0, 20, .inl f71)), (q47, .inl (g.2 0, 20, .inl f71)), (q54, .inl (g.2 0, 384, .inl (upd (upd (upd f56 49 x2) 50 x3) 51 x4))), (q23, .inr (8, [.ref q33, .ref q34, .ref q35, .ref q36, .int 0, .int 4, .int 0])), (q16, .inr (10, [.ref q20, .int 1, .int 1])), (q1, .inr (11, [.ref q16, w6, w7, w8, w9, w10, w11, w12, .int 0, .int 0, w15])), (q55, .inl (g.2 0, 40, .inl (upd (upd (upd (upd (upd (upd (upd (upd (upd (upd (upd (upd f57 5 1) 1 0) 4 1) 6 x3) 7 1) 9 1) 14 1) 19 1) 24 1) 29 1) 34 1) 39 1))), (q33, .inr (5, [.ref q54, .ref q55]))] H := hP
  have hD : va_D A [(q20, .inl (g.2 3, 10, .inr (.inr (.inr (.inr f21))))), (q25, .inr (8, [.ref q44, .ref q45, .ref q46, .ref q47, .int 0, .int 4, .int 0])), (q44, .inr (5, [.ref q50, .ref q51])), (q50, .inl (g.2 0, 384, .inl f56)), (q51, .inl (g.2 0, 40, .inl f57)), (q34, .inr (9, [.ref q68, .ref q69, .int 1, .int 0])), (q45, .inr (9, [.ref q62, .ref q63, .int 1, .int 0])), (q68, .inl (g.2 0, 10, .inl f56)), (q62, .inl (g.2 0, 10, .inl f56)), (q69, .inl (g.2 0, 10, .inl f70)), (q63, .inl (g.2 0, 10, .inl f70)), (q35, .inl (g.2 0, 60, .inl f56)), (q46, .inl (g.2 0, 60, .inl f56)), (q36, .inl (g.2 0, 20, .inl f71)), (q47, .inl (g.2 0, 20, .inl f71)), (q54, .inl (g.2 0, 384, .inl (upd (upd (upd f56 49 x2) 50 x3) 51 x4))), (q23, .inr (8, [.ref q33, .ref q34, .ref q35, .ref q36, .int 0, .int 4, .int 0])), (q16, .inr (10, [.ref q20, .int 1, .int 1])), (q1, .inr (11, [.ref q16, w6, w7, w8, w9, w10, w11, w12, .int 0, .int 0, w15])), (q55, .inl (g.2 0, 40, .inl (upd (upd (upd (upd (upd (upd (upd (upd (upd (upd (upd (upd f57 5 1) 1 0) 4 1) 6 x3) 7 1) 9 1) 14 1) 19 1) 24 1) 29 1) 34 1) 39 1))), (q33, .inr (5, [.ref q54, .ref q55]))] := hD
  exact x_zret hx hb hr rfl rfl hlocks hP hD hS hAe hsz (Nat.le_of_ble_eq_true rfl) (Nat.le_of_ble_eq_true rfl) (fun _ => 0) [0, 1, 2, 3, 4, 5, 6, 7, 8, 9, 10, 11, 12, 13, 14, 15, 16, 17, 18, 19, 20] (by decide) rfl dX9_addOneItem_37

set_option maxHeartbeats 4000000 in
set_option maxRecDepth 100000 in
theorem c244_X9_addNote (l : Launch) (g : gG) (q1 q22 q26 q29 q31 q39 q40 q41 q42 q50 q51 q52 q53 q56 q57 q60 q61 q68 q69 q74 q75 : Nat) (x2 x3 x4 : Int32) (w12 w13 w14 w15 w16 w17 w18 w19 w20 w21 w36 w37 w38 w72 w73 : Value) (f27 : Nat → Option Nat) (f62 : Nat → Int32) (f63 : Nat → Int32) (f76 : Nat → Int32) (f77 : Nat → Int32) (hf28 : f27 1 = some q29) (hf30 : f27 0 = some q31) (hf78 : f63 5 = 0) (hf79 : f62 48 = 0) (hf80 : f63 0 = 0) (hf81 : f63 2 = 0) (hf82 : f63 3 = 0) (hf83 : f63 8 = 0) (hf84 : f63 10 = 0) (hf85 : f63 11 = 0) (hf86 : f63 12 = 0) (hf87 : f63 13 = 0) (hf88 : f63 15 = 0) (hf89 : f63 16 = 0) (hf90 : f63 17 = 0) (hf91 : f63 18 = 0) (hf92 : f63 20 = 0) (hf93 : f63 21 = 0) (hf94 : f63 22 = 0) (hf95 : f63 23 = 0) (hf96 : f63 25 = 0) (hf97 : f63 26 = 0) (hf98 : f63 27 = 0) (hf99 : f63 28 = 0) (hf100 : f63 30 = 0) (hf101 : f63 31 = 0) (hf102 : f63 32 = 0) (hf103 : f63 33 = 0) (hf104 : f63 35 = 0) (hf105 : f63 36 = 0) (hf106 : f63 37 = 0) (hf107 : f63 38 = 0) (h5 : (0 : Int32) ≤ x2) (h6 : x2 ≤ 99) (h7 : (1 : Int32) ≤ x3) (h8 : x3 ≤ 16) (h9 : (1 : Int32) ≤ x4) (h10 : x4 ≤ 9) (sz : Nat) : Met l yX9_addNote [Cond.code yX9_addNote cX9_addNote 5 (some .int)] ({ frames := 6, cells := 0, slots := 0, locals := 174 } : Room) (va_Pc [.ref q1, .int 1, .int x2, .int x3, .int x4] (PX g sz [(q42, .inl (g.2 0, 20, .inl f77)), (q53, .inl (g.2 0, 20, .inl f77)), (q41, .inl (g.2 0, 60, .inl f62)), (q52, .inl (g.2 0, 60, .inl f62)), (q75, .inl (g.2 0, 10, .inl f76)), (q69, .inl (g.2 0, 10, .inl f76)), (q74, .inl (g.2 0, 10, .inl f62)), (q68, .inl (g.2 0, 10, .inl f62)), (q40, .inr (9, [.ref q74, .ref q75, w72, w73])), (q51, .inr (9, [.ref q68, .ref q69, .int 1, .int 0])), (q61, .inl (g.2 0, 40, .inl f63)), (q57, .inl (g.2 0, 40, .inl f63)), (q60, .inl (g.2 0, 384, .inl f62)), (q56, .inl (g.2 0, 384, .inl f62)), (q39, .inr (5, [.ref q60, .ref q61])), (q50, .inr (5, [.ref q56, .ref q57])), (q31, .inr (8, [.ref q50, .ref q51, .ref q52, .ref q53, .int 0, .int 4, .int 0])), (q29, .inr (8, [.ref q39, .ref q40, .ref q41, .ref q42, w36, w37, w38])), (q26, .inl (g.2 3, 10, .inr (.inr (.inr (.inr f27))))), (q22, .inr (10, [.ref q26, .int 0, .int 0])), (q1, .inr (11, [.ref q22, w12, w13, w14, w15, w16, w17, w18, w19, w20, w21]))])) (QI g [(q42, .inl (g.2 0, 20, .inl f77)), (q53, .inl (g.2 0, 20, .inl f77)), (q41, .inl (g.2 0, 60, .inl f62)), (q52, .inl (g.2 0, 60, .inl f62)), (q75, .inl (g.2 0, 10, .inl f76)), (q69, .inl (g.2 0, 10, .inl f76)), (q74, .inl (g.2 0, 10, .inl f62)), (q68, .inl (g.2 0, 10, .inl f62)), (q40, .inr (9, [.ref q74, .ref q75, w72, w73])), (q51, .inr (9, [.ref q68, .ref q69, .int 1, .int 0])), (q61, .inl (g.2 0, 40, .inl f63)), (q57, .inl (g.2 0, 40, .inl f63)), (q60, .inl (g.2 0, 384, .inl f62)), (q56, .inl (g.2 0, 384, .inl f62)), (q39, .inr (5, [.ref q60, .ref q61])), (q50, .inr (5, [.ref q56, .ref q57])), (q31, .inr (8, [.ref q50, .ref q51, .ref q52, .ref q53, .int 0, .int 4, .int 0])), (q29, .inr (8, [.ref q39, .ref q40, .ref q41, .ref q42, w36, w37, w38])), (q26, .inl (g.2 3, 10, .inr (.inr (.inr (.inr f27))))), (q22, .inr (10, [.ref q26, .int 0, .int 0])), (q1, .inr (11, [.ref q22, w12, w13, w14, w15, w16, w17, w18, w19, w20, w21]))] sz 1 (fun _ => [(q26, .inl (g.2 3, 10, .inr (.inr (.inr (.inr f27))))), (q31, .inr (8, [.ref q50, .ref q51, .ref q52, .ref q53, .int 0, .int 4, .int 0])), (q50, .inr (5, [.ref q56, .ref q57])), (q56, .inl (g.2 0, 384, .inl f62)), (q57, .inl (g.2 0, 40, .inl f63)), (q40, .inr (9, [.ref q74, .ref q75, .int 1, .int 0])), (q51, .inr (9, [.ref q68, .ref q69, .int 1, .int 0])), (q74, .inl (g.2 0, 10, .inl f62)), (q68, .inl (g.2 0, 10, .inl f62)), (q75, .inl (g.2 0, 10, .inl f76)), (q69, .inl (g.2 0, 10, .inl f76)), (q41, .inl (g.2 0, 60, .inl f62)), (q52, .inl (g.2 0, 60, .inl f62)), (q42, .inl (g.2 0, 20, .inl f77)), (q53, .inl (g.2 0, 20, .inl f77)), (q60, .inl (g.2 0, 384, .inl (upd (upd (upd f62 49 x2) 50 x3) 51 x4))), (q29, .inr (8, [.ref q39, .ref q40, .ref q41, .ref q42, .int 0, .int 4, .int 0])), (q22, .inr (10, [.ref q26, .int 1, .int 1])), (q1, .inr (11, [.ref q22, w12, w13, w14, w15, w16, w17, w18, .int 0, .int 0, w21])), (q61, .inl (g.2 0, 40, .inl (upd (upd (upd (upd (upd (upd (upd (upd (upd (upd (upd (upd f63 5 1) 1 0) 4 1) 6 x3) 7 1) 9 1) 14 1) 19 1) 24 1) 29 1) 34 1) 39 1))), (q39, .inr (5, [.ref q60, .ref q61]))])) 0 0 (va_A [(q42, .inl (g.2 0, 20, .inl f77)), (q53, .inl (g.2 0, 20, .inl f77)), (q41, .inl (g.2 0, 60, .inl f62)), (q52, .inl (g.2 0, 60, .inl f62)), (q75, .inl (g.2 0, 10, .inl f76)), (q69, .inl (g.2 0, 10, .inl f76)), (q74, .inl (g.2 0, 10, .inl f62)), (q68, .inl (g.2 0, 10, .inl f62)), (q40, .inr (9, [.ref q74, .ref q75, w72, w73])), (q51, .inr (9, [.ref q68, .ref q69, .int 1, .int 0])), (q61, .inl (g.2 0, 40, .inl f63)), (q57, .inl (g.2 0, 40, .inl f63)), (q60, .inl (g.2 0, 384, .inl f62)), (q56, .inl (g.2 0, 384, .inl f62)), (q39, .inr (5, [.ref q60, .ref q61])), (q50, .inr (5, [.ref q56, .ref q57])), (q31, .inr (8, [.ref q50, .ref q51, .ref q52, .ref q53, .int 0, .int 4, .int 0])), (q29, .inr (8, [.ref q39, .ref q40, .ref q41, .ref q42, w36, w37, w38])), (q26, .inl (g.2 3, 10, .inr (.inr (.inr (.inr f27))))), (q22, .inr (10, [.ref q26, .int 0, .int 0])), (q1, .inr (11, [.ref q22, w12, w13, w14, w15, w16, w17, w18, w19, w20, w21]))] sz) := by
  refine ofN (by decide) (Nat.le_of_ble_eq_true rfl) rfl ?_
  intro p e s m args below meth c A ls hAe hsz hx hb hml hr hlocks hin hown hE hP hD hA hS hl
  have hown : s.vm.findClass RX9 = some m.cls := hown
  refine lv_iload_n hx hb dX9_addNote_0 rfl (lv_at hl 1 rfl) ?_
  refine g0_v (rS (rest := []) hx hb hml hown hE hP hD (c89_X9_requirePattern l g 1 (by decide) (by decide) s.heap.size) (kS_X9_requirePattern hE (e617 hE) rfl rfl ⟨(Nat.le_of_ble_eq_true rfl), (Nat.le_of_ble_eq_true rfl)⟩) [] rfl (by decide) rfl hl.1 rfl (lv_room (Nat.le_of_ble_eq_true rfl)) dX9_addNote_1 ⟨(Nat.le_of_ble_eq_true rfl), (Nat.le_of_ble_eq_true rfl)⟩) hP hD hS hA (fun u9 H locs hP hS => ?_)
  refine lv_iload_n hx hb dX9_addNote_4 rfl (lv_at hl 2 rfl) ?_
  refine lv_iconst (v := 0) hx hb dX9_addNote_5 (by decide) ?_
  refine lv_bipush (v := 99) hx hb dX9_addNote_6 (by decide) ?_
  refine g0_v (rS (rest := []) hx hb hml hown hE hP hD (c99_X9_requireRange l g x2 h5 h6 H.size) (kS_X9_requireRange hE (e636 hE) rfl rfl ⟨(Nat.le_of_ble_eq_true rfl), (Nat.le_of_ble_eq_true rfl)⟩) [] rfl (by decide) rfl hl.1 rfl (lv_room (Nat.le_of_ble_eq_true rfl)) dX9_addNote_8 ⟨(Nat.le_of_ble_eq_true rfl), (Nat.le_of_ble_eq_true rfl)⟩) hP hD hS hA (fun u9 H locs hP hS => ?_)
  refine lv_iload_n hx hb dX9_addNote_11 rfl (lv_at hl 3 rfl) ?_
  refine lv_iconst (v := 1) hx hb dX9_addNote_12 (by decide) ?_
  refine lv_bipush (v := 16) hx hb dX9_addNote_13 (by decide) ?_
  refine g0_v (rS (rest := []) hx hb hml hown hE hP hD (c108_X9_requireRange l g x3 h7 h8 H.size) (kS_X9_requireRange hE (e636 hE) rfl rfl ⟨(Nat.le_of_ble_eq_true rfl), (Nat.le_of_ble_eq_true rfl)⟩) [] rfl (by decide) rfl hl.1 rfl (lv_room (Nat.le_of_ble_eq_true rfl)) dX9_addNote_15 ⟨(Nat.le_of_ble_eq_true rfl), (Nat.le_of_ble_eq_true rfl)⟩) hP hD hS hA (fun u9 H locs hP hS => ?_)
  refine lv_iload hx hb dX9_addNote_18 (lv_at hl 4 rfl) ?_
  refine lv_iconst (v := 1) hx hb dX9_addNote_20 (by decide) ?_
  refine lv_bipush (v := 9) hx hb dX9_addNote_21 (by decide) ?_
  refine g0_v (rS (rest := []) hx hb hml hown hE hP hD (c117_X9_requireRange l g x4 h9 h10 H.size) (kS_X9_requireRange hE (e636 hE) rfl rfl ⟨(Nat.le_of_ble_eq_true rfl), (Nat.le_of_ble_eq_true rfl)⟩) [] rfl (by decide) rfl hl.1 rfl (lv_room (Nat.le_of_ble_eq_true rfl)) dX9_addNote_23 ⟨(Nat.le_of_ble_eq_true rfl), (Nat.le_of_ble_eq_true rfl)⟩) hP hD hS hA (fun u9 H locs hP hS => ?_)
  refine lv_aload_n hx hb dX9_addNote_26 rfl (lv_at hl 0 rfl) ?_
  refine lv_iload_n hx hb dX9_addNote_27 rfl (lv_at hl 1 rfl) ?_
  refine lv_iconst (v := 0) hx hb dX9_addNote_28 (by decide) ?_
  refine lv_iload_n hx hb dX9_addNote_29 rfl (lv_at hl 2 rfl) ?_
  refine lv_iload_n hx hb dX9_addNote_30 rfl (lv_at hl 3 rfl) ?_
  refine lv_iload hx hb dX9_addNote_31 (lv_at hl 4 rfl) ?_
  refine g_i (wr := []) (rV (rest := []) hx hb hml hown hE hP hD 20 rfl rfl (c243_X9_addOneItem l g q1 q22 q26 q29 q31 q39 q40 q41 q42 q50 q51 q52 q53 q56 q57 q60 q61 q68 q69 q74 q75 x2 x3 x4 w12 w13 w14 w15 w16 w17 w18 w19 w20 w21 w36 w37 w38 w72 w73 f27 f62 f63 f76 f77 (hf28) (hf30) (hf78) (hf79) (hf80) (hf81) (hf82) (hf83) (hf84) (hf85) (hf86) (hf87) (hf88) (hf89) (hf90) (hf91) (hf92) (hf93) (hf94) (hf95) (hf96) (hf97) (hf98) (hf99) (hf100) (hf101) (hf102) (hf103) (hf104) (hf105) (hf106) (hf107) (i_lele h8 (by decide)) H.size) (kV_X9_addOneItem hE (e655 hE) rfl rfl ⟨(Nat.le_of_ble_eq_true rfl), (Nat.le_of_ble_eq_true rfl)⟩) [0, 1, 2, 3, 4, 5, 6, 7, 8, 9, 10, 11, 12, 13, 14, 15, 16, 17, 18, 19, 20] rfl (by decide) rfl hl.1 rfl (lv_room (Nat.le_of_ble_eq_true rfl)) dX9_addNote_33 ⟨(Nat.le_of_ble_eq_true rfl), (Nat.le_of_ble_eq_true rfl)⟩) hP hD hS hA [0, 1, 2, 3, 4, 5, 6, 7, 8, 9, 10, 11, 12, 13, 14, 15, 16, 17, 18, 19, 20] [] rfl rfl (by decide) (by decide) (fun u5 H locs hP hD hS => ?_)
  have hP : va_P g.1 vwCl [(q26, .inl (g.2 3, 10, .inr (.inr (.inr (.inr f27))))), (q31, .inr (8, [.ref q50, .ref q51, .ref q52, .ref q53, .int 0, .int 4, .int 0])), (q50, .inr (5, [.ref q56, .ref q57])), (q56, .inl (g.2 0, 384, .inl f62)), (q57, .inl (g.2 0, 40, .inl f63)), (q40, .inr (9, [.ref q74, .ref q75, .int 1, .int 0])), (q51, .inr (9, [.ref q68, .ref q69, .int 1, .int 0])), (q74, .inl (g.2 0, 10, .inl f62)), (q68, .inl (g.2 0, 10, .inl f62)), (q75, .inl (g.2 0, 10, .inl f76)), (q69, .inl (g.2 0, 10, .inl f76)), (q41, .inl (g.2 0, 60, .inl f62)), (q52, .inl (g.2 0, 60, .inl f62)), (q42, .inl (g.2 0, 20, .inl f77)), (q53, .inl (g.2 0, 20, .inl f77)), (q60, .inl (g.2 0, 384, .inl (upd (upd (upd f62 49 x2) 50 x3) 51 x4))), (q29, .inr (8, [.ref q39, .ref q40, .ref q41, .ref q42, .int 0, .int 4, .int 0])), (q22, .inr (10, [.ref q26, .int 1, .int 1])), (q1, .inr (11, [.ref q22, w12, w13, w14, w15, w16, w17, w18, .int 0, .int 0, w21])), (q61, .inl (g.2 0, 40, .inl (upd (upd (upd (upd (upd (upd (upd (upd (upd (upd (upd (upd f63 5 1) 1 0) 4 1) 6 x3) 7 1) 9 1) 14 1) 19 1) 24 1) 29 1) 34 1) 39 1))), (q39, .inr (5, [.ref q60, .ref q61]))] H := hP
  have hD : va_D A [(q26, .inl (g.2 3, 10, .inr (.inr (.inr (.inr f27))))), (q31, .inr (8, [.ref q50, .ref q51, .ref q52, .ref q53, .int 0, .int 4, .int 0])), (q50, .inr (5, [.ref q56, .ref q57])), (q56, .inl (g.2 0, 384, .inl f62)), (q57, .inl (g.2 0, 40, .inl f63)), (q40, .inr (9, [.ref q74, .ref q75, .int 1, .int 0])), (q51, .inr (9, [.ref q68, .ref q69, .int 1, .int 0])), (q74, .inl (g.2 0, 10, .inl f62)), (q68, .inl (g.2 0, 10, .inl f62)), (q75, .inl (g.2 0, 10, .inl f76)), (q69, .inl (g.2 0, 10, .inl f76)), (q41, .inl (g.2 0, 60, .inl f62)), (q52, .inl (g.2 0, 60, .inl f62)), (q42, .inl (g.2 0, 20, .inl f77)), (q53, .inl (g.2 0, 20, .inl f77)), (q60, .inl (g.2 0, 384, .inl (upd (upd (upd f62 49 x2) 50 x3) 51 x4))), (q29, .inr (8, [.ref q39, .ref q40, .ref q41, .ref q42, .int 0, .int 4, .int 0])), (q22, .inr (10, [.ref q26, .int 1, .int 1])), (q1, .inr (11, [.ref q22, w12, w13, w14, w15, w16, w17, w18, .int 0, .int 0, w21])), (q61, .inl (g.2 0, 40, .inl (upd (upd (upd (upd (upd (upd (upd (upd (upd (upd (upd (upd f63 5 1) 1 0) 4 1) 6 x3) 7 1) 9 1) 14 1) 19 1) 24 1) 29 1) 34 1) 39 1))), (q39, .inr (5, [.ref q60, .ref q61]))] := hD
  exact x_zret hx hb hr rfl rfl hlocks hP hD hS hAe hsz (Nat.le_of_ble_eq_true rfl) (Nat.le_of_ble_eq_true rfl) (fun _ => 0) [0, 1, 2, 3, 4, 5, 6, 7, 8, 9, 10, 11, 12, 13, 14, 15, 16, 17, 18, 19, 20] (by decide) rfl dX9_addNote_36

set_option maxHeartbeats 4000000 in
set_option maxRecDepth 100000 in
theorem c245_L_addNote (l : Launch) (g : gG) (hlx : l.stackTraces = false) (q1 q5 q23 q27 q30 q32 q40 q41 q42 q43 q51 q52 q53 q54 q57 q58 q61 q62 q69 q70 q75 q76 : Nat) (x2 x3 x4 : Int32) (w13 w14 w15 w16 w17 w18 w19 w20 w21 w22 w37 w38 w39 w73 w74 : Value) (f28 : Nat → Option Nat) (f63 : Nat → Int32) (f64 : Nat → Int32) (f77 : Nat → Int32) (f78 : Nat → Int32) (f109 : Nat → Int64) (hf29 : f28 1 = some q30) (hf31 : f28 0 = some q32) (hf79 : f64 5 = 0) (hf80 : f63 48 = 0) (hf81 : f64 0 = 0) (hf82 : f64 2 = 0) (hf83 : f64 3 = 0) (hf84 : f64 8 = 0) (hf85 : f64 10 = 0) (hf86 : f64 11 = 0) (hf87 : f64 12 = 0) (hf88 : f64 13 = 0) (hf89 : f64 15 = 0) (hf90 : f64 16 = 0) (hf91 : f64 17 = 0) (hf92 : f64 18 = 0) (hf93 : f64 20 = 0) (hf94 : f64 21 = 0) (hf95 : f64 22 = 0) (hf96 : f64 23 = 0) (hf97 : f64 25 = 0) (hf98 : f64 26 = 0) (hf99 : f64 27 = 0) (hf100 : f64 28 = 0) (hf101 : f64 30 = 0) (hf102 : f64 31 = 0) (hf103 : f64 32 = 0) (hf104 : f64 33 = 0) (hf105 : f64 35 = 0) (hf106 : f64 36 = 0) (hf107 : f64 37 = 0) (hf108 : f64 38 = 0) (h6 : (0 : Int32) ≤ x2) (h7 : x2 ≤ 99) (h8 : (1 : Int32) ≤ x3) (h9 : x3 ≤ 16) (h10 : (1 : Int32) ≤ x4) (h11 : x4 ≤ 9) (sz : Nat) : Met l yL_addNote [Cond.codeWith yL_addNote cL_addNote 7 (some .int) [(0, 14, 17, 13), (0, 14, 21, 15), (0, 14, 25, 17)]] ({ frames := 7, cells := 0, slots := 0, locals := 198 } : Room) (va_Pc [.ref q1, .int 1, .int x2, .int x3, .int x4, .ref q5] (PZ g sz [(q5, .inl (g.2 1, 1, .inr (.inl f109))), (q43, .inl (g.2 0, 20, .inl f78)), (q54, .inl (g.2 0, 20, .inl f78)), (q42, .inl (g.2 0, 60, .inl f63)), (q53, .inl (g.2 0, 60, .inl f63)), (q76, .inl (g.2 0, 10, .inl f77)), (q70, .inl (g.2 0, 10, .inl f77)), (q75, .inl (g.2 0, 10, .inl f63)), (q69, .inl (g.2 0, 10, .inl f63)), (q41, .inr (9, [.ref q75, .ref q76, w73, w74])), (q52, .inr (9, [.ref q69, .ref q70, .int 1, .int 0])), (q62, .inl (g.2 0, 40, .inl f64)), (q58, .inl (g.2 0, 40, .inl f64)), (q61, .inl (g.2 0, 384, .inl f63)), (q57, .inl (g.2 0, 384, .inl f63)), (q40, .inr (5, [.ref q61, .ref q62])), (q51, .inr (5, [.ref q57, .ref q58])), (q32, .inr (8, [.ref q51, .ref q52, .ref q53, .ref q54, .int 0, .int 4, .int 0])), (q30, .inr (8, [.ref q40, .ref q41, .ref q42, .ref q43, w37, w38, w39])), (q27, .inl (g.2 3, 10, .inr (.inr (.inr (.inr f28))))), (q23, .inr (10, [.ref q27, .int 0, .int 0])), (q1, .inr (11, [.ref q23, w13, w14, w15, w16, w17, w18, w19, w20, w21, w22]))])) (QI g [(q5, .inl (g.2 1, 1, .inr (.inl f109))), (q43, .inl (g.2 0, 20, .inl f78)), (q54, .inl (g.2 0, 20, .inl f78)), (q42, .inl (g.2 0, 60, .inl f63)), (q53, .inl (g.2 0, 60, .inl f63)), (q76, .inl (g.2 0, 10, .inl f77)), (q70, .inl (g.2 0, 10, .inl f77)), (q75, .inl (g.2 0, 10, .inl f63)), (q69, .inl (g.2 0, 10, .inl f63)), (q41, .inr (9, [.ref q75, .ref q76, w73, w74])), (q52, .inr (9, [.ref q69, .ref q70, .int 1, .int 0])), (q62, .inl (g.2 0, 40, .inl f64)), (q58, .inl (g.2 0, 40, .inl f64)), (q61, .inl (g.2 0, 384, .inl f63)), (q57, .inl (g.2 0, 384, .inl f63)), (q40, .inr (5, [.ref q61, .ref q62])), (q51, .inr (5, [.ref q57, .ref q58])), (q32, .inr (8, [.ref q51, .ref q52, .ref q53, .ref q54, .int 0, .int 4, .int 0])), (q30, .inr (8, [.ref q40, .ref q41, .ref q42, .ref q43, w37, w38, w39])), (q27, .inl (g.2 3, 10, .inr (.inr (.inr (.inr f28))))), (q23, .inr (10, [.ref q27, .int 0, .int 0])), (q1, .inr (11, [.ref q23, w13, w14, w15, w16, w17, w18, w19, w20, w21, w22]))] sz 0 (fun _ => [(q5, .inl (g.2 1, 1, .inr (.inl (vp_updL f109 0 1))))])) 0 0 (va_A [(q5, .inl (g.2 1, 1, .inr (.inl f109))), (q43, .inl (g.2 0, 20, .inl f78)), (q54, .inl (g.2 0, 20, .inl f78)), (q42, .inl (g.2 0, 60, .inl f63)), (q53, .inl (g.2 0, 60, .inl f63)), (q76, .inl (g.2 0, 10, .inl f77)), (q70, .inl (g.2 0, 10, .inl f77)), (q75, .inl (g.2 0, 10, .inl f63)), (q69, .inl (g.2 0, 10, .inl f63)), (q41, .inr (9, [.ref q75, .ref q76, w73, w74])), (q52, .inr (9, [.ref q69, .ref q70, .int 1, .int 0])), (q62, .inl (g.2 0, 40, .inl f64)), (q58, .inl (g.2 0, 40, .inl f64)), (q61, .inl (g.2 0, 384, .inl f63)), (q57, .inl (g.2 0, 384, .inl f63)), (q40, .inr (5, [.ref q61, .ref q62])), (q51, .inr (5, [.ref q57, .ref q58])), (q32, .inr (8, [.ref q51, .ref q52, .ref q53, .ref q54, .int 0, .int 4, .int 0])), (q30, .inr (8, [.ref q40, .ref q41, .ref q42, .ref q43, w37, w38, w39])), (q27, .inl (g.2 3, 10, .inr (.inr (.inr (.inr f28))))), (q23, .inr (10, [.ref q27, .int 0, .int 0])), (q1, .inr (11, [.ref q23, w13, w14, w15, w16, w17, w18, w19, w20, w21, w22]))] sz) := by
  refine ofH (by decide) (Nat.le_of_ble_eq_true rfl) rfl ?_
  intro p e s m args below meth c A ls hAe hsz hx hb hml hr hlocks hin hown hE hP hD hA hS hl htb hz
  have hown : s.vm.findClass RL = some m.cls := hown
  refine lv_aload hx hb dL_addNote_0 (lv_at hl 5 rfl) ?_
  refine lv_iconst (v := 0) hx hb dL_addNote_2 (by decide) ?_
  refine lv_aload_n hx hb dL_addNote_3 rfl (lv_at hl 0 rfl) ?_
  refine lv_iload_n hx hb dL_addNote_4 rfl (lv_at hl 1 rfl) ?_
  refine lv_iload_n hx hb dL_addNote_5 rfl (lv_at hl 2 rfl) ?_
  refine lv_iload_n hx hb dL_addNote_6 rfl (lv_at hl 3 rfl) ?_
  refine lv_iload hx hb dL_addNote_7 (lv_at hl 4 rfl) ?_
  refine g_i (wr := [(q5, .inl (g.2 1, 1, .inr (.inl f109)))]) (rV (rest := [.int 0, .ref q5]) hx hb hml hown hE hP hD 21 rfl rfl (c244_X9_addNote l g q1 q23 q27 q30 q32 q40 q41 q42 q43 q51 q52 q53 q54 q57 q58 q61 q62 q69 q70 q75 q76 x2 x3 x4 w13 w14 w15 w16 w17 w18 w19 w20 w21 w22 w37 w38 w39 w73 w74 f28 f63 f64 f77 f78 (hf29) (hf31) (hf79) (hf80) (hf81) (hf82) (hf83) (hf84) (hf85) (hf86) (hf87) (hf88) (hf89) (hf90) (hf91) (hf92) (hf93) (hf94) (hf95) (hf96) (hf97) (hf98) (hf99) (hf100) (hf101) (hf102) (hf103) (hf104) (hf105) (hf106) (hf107) (hf108) h6 h7 h8 h9 h10 h11 s.heap.size) (kV_X9_addNote hE (e613 hE) rfl rfl ⟨(Nat.le_of_ble_eq_true rfl), (Nat.le_of_ble_eq_true rfl)⟩) [1, 2, 3, 4, 5, 6, 7, 8, 9, 10, 11, 12, 13, 14, 15, 16, 17, 18, 19, 20, 21] rfl (by decide) rfl hl.1 rfl (lv_room (Nat.le_of_ble_eq_true rfl)) dL_addNote_9 ⟨(Nat.le_of_ble_eq_true rfl), (Nat.le_of_ble_eq_true rfl)⟩) hP hD hS hA [1, 2, 3, 4, 5, 6, 7, 8, 9, 10, 11, 12, 13, 14, 15, 16, 17, 18, 19, 20, 21] [0] rfl rfl (by decide) (by decide) (fun u1 H locs hP hD hS => ?_)
  have hP : va_P g.1 vwCl [(q5, .inl (g.2 1, 1, .inr (.inl f109))), (q27, .inl (g.2 3, 10, .inr (.inr (.inr (.inr f28))))), (q32, .inr (8, [.ref q51, .ref q52, .ref q53, .ref q54, .int 0, .int 4, .int 0])), (q51, .inr (5, [.ref q57, .ref q58])), (q57, .inl (g.2 0, 384, .inl f63)), (q58, .inl (g.2 0, 40, .inl f64)), (q41, .inr (9, [.ref q75, .ref q76, .int 1, .int 0])), (q52, .inr (9, [.ref q69, .ref q70, .int 1, .int 0])), (q75, .inl (g.2 0, 10, .inl f63)), (q69, .inl (g.2 0, 10, .inl f63)), (q76, .inl (g.2 0, 10, .inl f77)), (q70, .inl (g.2 0, 10, .inl f77)), (q42, .inl (g.2 0, 60, .inl f63)), (q53, .inl (g.2 0, 60, .inl f63)), (q43, .inl (g.2 0, 20, .inl f78)), (q54, .inl (g.2 0, 20, .inl f78)), (q61, .inl (g.2 0, 384, .inl (upd (upd (upd f63 49 x2) 50 x3) 51 x4))), (q30, .inr (8, [.ref q40, .ref q41, .ref q42, .ref q43, .int 0, .int 4, .int 0])), (q23, .inr (10, [.ref q27, .int 1, .int 1])), (q1, .inr (11, [.ref q23, w13, w14, w15, w16, w17, w18, w19, .int 0, .int 0, w22])), (q62, .inl (g.2 0, 40, .inl (upd (upd (upd (upd (upd (upd (upd (upd (upd (upd (upd (upd f64 5 1) 1 0) 4 1) 6 x3) 7 1) 9 1) 14 1) 19 1) 24 1) 29 1) 34 1) 39 1))), (q40, .inr (5, [.ref q61, .ref q62]))] H := hP
  have hD : va_D A [(q5, .inl (g.2 1, 1, .inr (.inl f109))), (q27, .inl (g.2 3, 10, .inr (.inr (.inr (.inr f28))))), (q32, .inr (8, [.ref q51, .ref q52, .ref q53, .ref q54, .int 0, .int 4, .int 0])), (q51, .inr (5, [.ref q57, .ref q58])), (q57, .inl (g.2 0, 384, .inl f63)), (q58, .inl (g.2 0, 40, .inl f64)), (q41, .inr (9, [.ref q75, .ref q76, .int 1, .int 0])), (q52, .inr (9, [.ref q69, .ref q70, .int 1, .int 0])), (q75, .inl (g.2 0, 10, .inl f63)), (q69, .inl (g.2 0, 10, .inl f63)), (q76, .inl (g.2 0, 10, .inl f77)), (q70, .inl (g.2 0, 10, .inl f77)), (q42, .inl (g.2 0, 60, .inl f63)), (q53, .inl (g.2 0, 60, .inl f63)), (q43, .inl (g.2 0, 20, .inl f78)), (q54, .inl (g.2 0, 20, .inl f78)), (q61, .inl (g.2 0, 384, .inl (upd (upd (upd f63 49 x2) 50 x3) 51 x4))), (q30, .inr (8, [.ref q40, .ref q41, .ref q42, .ref q43, .int 0, .int 4, .int 0])), (q23, .inr (10, [.ref q27, .int 1, .int 1])), (q1, .inr (11, [.ref q23, w13, w14, w15, w16, w17, w18, w19, .int 0, .int 0, w22])), (q62, .inl (g.2 0, 40, .inl (upd (upd (upd (upd (upd (upd (upd (upd (upd (upd (upd (upd f64 5 1) 1 0) 4 1) 6 x3) 7 1) 9 1) 14 1) 19 1) 24 1) 29 1) 34 1) 39 1))), (q40, .inr (5, [.ref q61, .ref q62]))] := hD
  refine lv_i2l (v := 1) hx hb dL_addNote_12 (by decide) ?_
  refine x_last (ws' := [(q5, .inl (g.2 1, 1, .inr (.inl (vp_updL f109 0 1)))), (q27, .inl (g.2 3, 10, .inr (.inr (.inr (.inr f28))))), (q32, .inr (8, [.ref q51, .ref q52, .ref q53, .ref q54, .int 0, .int 4, .int 0])), (q51, .inr (5, [.ref q57, .ref q58])), (q57, .inl (g.2 0, 384, .inl f63)), (q58, .inl (g.2 0, 40, .inl f64)), (q41, .inr (9, [.ref q75, .ref q76, .int 1, .int 0])), (q52, .inr (9, [.ref q69, .ref q70, .int 1, .int 0])), (q75, .inl (g.2 0, 10, .inl f63)), (q69, .inl (g.2 0, 10, .inl f63)), (q76, .inl (g.2 0, 10, .inl f77)), (q70, .inl (g.2 0, 10, .inl f77)), (q42, .inl (g.2 0, 60, .inl f63)), (q53, .inl (g.2 0, 60, .inl f63)), (q43, .inl (g.2 0, 20, .inl f78)), (q54, .inl (g.2 0, 20, .inl f78)), (q61, .inl (g.2 0, 384, .inl (upd (upd (upd f63 49 x2) 50 x3) 51 x4))), (q30, .inr (8, [.ref q40, .ref q41, .ref q42, .ref q43, .int 0, .int 4, .int 0])), (q23, .inr (10, [.ref q27, .int 1, .int 1])), (q1, .inr (11, [.ref q23, w13, w14, w15, w16, w17, w18, w19, .int 0, .int 0, w22])), (q62, .inl (g.2 0, 40, .inl (upd (upd (upd (upd (upd (upd (upd (upd (upd (upd (upd (upd f64 5 1) 1 0) 4 1) 6 x3) 7 1) 9 1) 14 1) 19 1) 24 1) 29 1) 34 1) 39 1))), (q40, .inr (5, [.ref q61, .ref q62]))]) hx hb hE hP hD hS 0 rfl 0 (x_in (by decide)) (by decide) dL_addNote_13 rfl (fun H locs hP hD hS => ?_)
  refine lv_goto (tgt := 29) hx hb dL_addNote_14 (by decide) ?_
  refine lv_iconst (v := 0) hx hb dL_addNote_29 (by decide) ?_
  exact x_zret hx hb hr rfl rfl hlocks hP hD hS hAe hsz (Nat.le_of_ble_eq_true rfl) (Nat.le_of_ble_eq_true rfl) (fun _ => 0) [0] (by decide) rfl dL_addNote_30

set_option maxHeartbeats 4000000 in
set_option maxRecDepth 100000 in
theorem c246_X10_isRanged (l : Launch) (g : gG) (x1 x2 x3 : Int32) (h4 : (0 : Int32) ≤ x1) (h5 : x1 ≤ 99) (h6 : (1 : Int32) ≤ x2) (h7 : x2 ≤ 16) (h8 : (1 : Int32) ≤ x3) (h9 : x3 ≤ 9) (sz : Nat) : Met l yX10_isRanged [Cond.code yX10_isRanged cX10_isRanged 5 (some .boolean)] ({ frames := 1, cells := 0, slots := 0, locals := 22 } : Room) (va_Pc [.int 1, .int 0, .int x1, .int x2, .int x3] (PX g sz [])) (QI g [] sz 1 (fun _ => [])) 0 0 (va_A [] sz) := by
  refine ofN (by decide) (Nat.le_of_ble_eq_true rfl) rfl ?_
  intro p e s m args below meth c A ls hAe hsz hx hb hml hr hlocks hin hown hE hP hD hA hS hl
  have hown : s.vm.findClass RX10 = some m.cls := hown
  refine lv_iload_n hx hb dX10_isRanged_0 rfl (lv_at hl 1 rfl) ?_
  refine lv_if_ne (tgt := 43) hx hb dX10_isRanged_1 (by decide) (fun h => absurd h (by decide)) (fun _ => ?_)
  refine lv_iload_n hx hb dX10_isRanged_4 rfl (lv_at hl 2 rfl) ?_
  refine lv_iconst (v := 0) hx hb dX10_isRanged_5 (by decide) ?_
  refine lv_bipush (v := 99) hx hb dX10_isRanged_6 (by decide) ?_
  refine g0_i (rS (rest := []) hx hb hml hown hE hP hD (c103_X10_in l g x1 h4 h5 s.heap.size) (kS_X10_in hE (e1431 hE) rfl rfl ⟨(Nat.le_of_ble_eq_true rfl), (Nat.le_of_ble_eq_true rfl)⟩) [] rfl (by decide) rfl hl.1 rfl (lv_room (Nat.le_of_ble_eq_true rfl)) dX10_isRanged_8 ⟨(Nat.le_of_ble_eq_true rfl), (Nat.le_of_ble_eq_true rfl)⟩) hP hD hS hA (fun u9 H locs hP hS => ?_)
  refine lv_if_eq (tgt := 39) hx hb dX10_isRanged_11 (by decide) (fun h => absurd h (by decide)) (fun _ => ?_)
  refine lv_iload_n hx hb dX10_isRanged_14 rfl (lv_at hl 3 rfl) ?_
  refine lv_iconst (v := 1) hx hb dX10_isRanged_15 (by decide) ?_
  refine lv_bipush (v := 16) hx hb dX10_isRanged_16 (by decide) ?_
  refine g0_i (rS (rest := []) hx hb hml hown hE hP hD (c112_X10_in l g x2 h6 h7 H.size) (kS_X10_in hE (e1431 hE) rfl rfl ⟨(Nat.le_of_ble_eq_true rfl), (Nat.le_of_ble_eq_true rfl)⟩) [] rfl (by decide) rfl hl.1 rfl (lv_room (Nat.le_of_ble_eq_true rfl)) dX10_isRanged_18 ⟨(Nat.le_of_ble_eq_true rfl), (Nat.le_of_ble_eq_true rfl)⟩) hP hD hS hA (fun u9 H locs hP hS => ?_)
  refine lv_if_eq (tgt := 39) hx hb dX10_isRanged_21 (by decide) (fun h => absurd h (by decide)) (fun _ => ?_)
  refine lv_iload hx hb dX10_isRanged_24 (lv_at hl 4 rfl) ?_
  refine lv_iconst (v := 1) hx hb dX10_isRanged_26 (by decide) ?_
  refine lv_bipush (v := 9) hx hb dX10_isRanged_27 (by decide) ?_
  refine g0_i (rS (rest := []) hx hb hml hown hE hP hD (c196_X10_in l g x3 h8 h9 H.size) (kS_X10_in hE (e1431 hE) rfl rfl ⟨(Nat.le_of_ble_eq_true rfl), (Nat.le_of_ble_eq_true rfl)⟩) [] rfl (by decide) rfl hl.1 rfl (lv_room (Nat.le_of_ble_eq_true rfl)) dX10_isRanged_29 ⟨(Nat.le_of_ble_eq_true rfl), (Nat.le_of_ble_eq_true rfl)⟩) hP hD hS hA (fun u9 H locs hP hS => ?_)
  refine lv_if_eq (tgt := 39) hx hb dX10_isRanged_32 (by decide) (fun h => absurd h (by decide)) (fun _ => ?_)
  refine lv_iconst (v := 1) hx hb dX10_isRanged_35 (by decide) ?_
  refine lv_goto (tgt := 84) hx hb dX10_isRanged_36 (by decide) ?_
  exact x_zret hx hb hr rfl rfl hlocks hP hD hS hAe hsz (Nat.le_of_ble_eq_true rfl) (Nat.le_of_ble_eq_true rfl) (fun _ => 0) [] (by decide) rfl dX10_isRanged_84

set_option maxHeartbeats 4000000 in
set_option maxRecDepth 100000 in
theorem c247_X10_many (l : Launch) (g : gG) (q1 q39 : Nat) (w3 w4 w5 w6 w7 w8 w9 w10 w11 w12 w13 w14 w15 w16 w17 w18 w19 w20 w21 w22 w23 w24 w25 w26 w27 w28 w29 w30 w31 w32 w33 w34 w35 w36 w37 w38 : Value) (f40 : Nat → Int32) (hf41 : f40 0 = 0) (sz : Nat) : Met l yX10_many [Cond.code yX10_many cX10_many 2 (some .int)] ({ frames := 1, cells := 0, slots := 0, locals := 20 } : Room) (va_Pc [.ref q1, .int 0] (PX g sz [(q39, .inl (g.2 0, 497, .inl f40)), (q1, .inr (12, [.ref q39, w3, w4, w5, w6, w7, w8, w9, w10, w11, w12, w13, w14, w15, w16, w17, w18, w19, w20, w21, w22, w23, w24, w25, w26, w27, w28, w29, w30, w31, w32, w33, w34, w35, w36, w37, w38]))])) (QI g [(q39, .inl (g.2 0, 497, .inl f40)), (q1, .inr (12, [.ref q39, w3, w4, w5, w6, w7, w8, w9, w10, w11, w12, w13, w14, w15, w16, w17, w18, w19, w20, w21, w22, w23, w24, w25, w26, w27, w28, w29, w30, w31, w32, w33, w34, w35, w36, w37, w38]))] sz 0 (fun _ => [(q39, .inl (g.2 0, 497, .inl f40)), (q1, .inr (12, [.ref q39, w3, w4, w5, w6, w7, w8, w9, w10, w11, w12, w13, w14, w15, w16, w17, w18, w19, w20, w21, w22, w23, w24, w25, w26, w27, w28, w29, w30, w31, w32, w33, w34, w35, w36, w37, w38]))])) 0 0 (va_A [(q39, .inl (g.2 0, 497, .inl f40)), (q1, .inr (12, [.ref q39, w3, w4, w5, w6, w7, w8, w9, w10, w11, w12, w13, w14, w15, w16, w17, w18, w19, w20, w21, w22, w23, w24, w25, w26, w27, w28, w29, w30, w31, w32, w33, w34, w35, w36, w37, w38]))] sz) := by
  refine ofN (by decide) (Nat.le_of_ble_eq_true rfl) rfl ?_
  intro p e s m args below meth c A ls hAe hsz hx hb hml hr hlocks hin hown hE hP hD hA hS hl
  have hown : s.vm.findClass RX10 = some m.cls := hown
  refine lv_aload_n hx hb dX10_many_0 rfl (lv_at hl 0 rfl) ?_
  refine gf_RX10_9 hx hb hown hE hP 1 rfl rfl dX10_many_1 ?_
  refine lv_iload_n hx hb dX10_many_4 rfl (lv_at hl 1 rfl) ?_
  refine g0_i (rS (rest := [.ref q39]) hx hb hml hown hE hP hD (c199_X10_itemsAt l g s.heap.size) (kS_X10_itemsAt hE (e1445 hE) rfl rfl ⟨(Nat.le_of_ble_eq_true rfl), (Nat.le_of_ble_eq_true rfl)⟩) [] rfl (by decide) rfl hl.1 rfl (lv_room (Nat.le_of_ble_eq_true rfl)) dX10_many_5 ⟨(Nat.le_of_ble_eq_true rfl), (Nat.le_of_ble_eq_true rfl)⟩) hP hD hS hA (fun u9 H locs hP hS => ?_)
  refine x_iald (v := 0) hx hb hE hP 0 rfl 0 (x_in (by decide)) (by decide) hf41 dX10_many_8 ?_
  exact x_zret hx hb hr rfl rfl hlocks hP hD hS hAe hsz (Nat.le_of_ble_eq_true rfl) (Nat.le_of_ble_eq_true rfl) (fun _ => 0) [0, 1] (by decide) rfl dX10_many_9

set_option maxHeartbeats 4000000 in
set_option maxRecDepth 100000 in
theorem c248_X10_many (l : Launch) (g : gG) (q1 q39 : Nat) (w3 w4 w5 w6 w7 w8 w9 w10 w11 w12 w13 w14 w15 w16 w17 w18 w19 w20 w21 w22 w23 w24 w25 w26 w27 w28 w29 w30 w31 w32 w33 w34 w35 w36 w37 w38 : Value) (f40 : Nat → Int32) (hf41 : f40 49 = 1) (sz : Nat) : Met l yX10_many [Cond.code yX10_many cX10_many 2 (some .int)] ({ frames := 1, cells := 0, slots := 0, locals := 20 } : Room) (va_Pc [.ref q1, .int 1] (PX g sz [(q39, .inl (g.2 0, 497, .inl f40)), (q1, .inr (12, [.ref q39, w3, w4, w5, w6, w7, w8, w9, w10, w11, w12, w13, w14, w15, w16, w17, w18, w19, w20, w21, w22, w23, w24, w25, w26, w27, w28, w29, w30, w31, w32, w33, w34, w35, w36, w37, w38]))])) (QI g [(q39, .inl (g.2 0, 497, .inl f40)), (q1, .inr (12, [.ref q39, w3, w4, w5, w6, w7, w8, w9, w10, w11, w12, w13, w14, w15, w16, w17, w18, w19, w20, w21, w22, w23, w24, w25, w26, w27, w28, w29, w30, w31, w32, w33, w34, w35, w36, w37, w38]))] sz 1 (fun _ => [(q39, .inl (g.2 0, 497, .inl f40)), (q1, .inr (12, [.ref q39, w3, w4, w5, w6, w7, w8, w9, w10, w11, w12, w13, w14, w15, w16, w17, w18, w19, w20, w21, w22, w23, w24, w25, w26, w27, w28, w29, w30, w31, w32, w33, w34, w35, w36, w37, w38]))])) 0 0 (va_A [(q39, .inl (g.2 0, 497, .inl f40)), (q1, .inr (12, [.ref q39, w3, w4, w5, w6, w7, w8, w9, w10, w11, w12, w13, w14, w15, w16, w17, w18, w19, w20, w21, w22, w23, w24, w25, w26, w27, w28, w29, w30, w31, w32, w33, w34, w35, w36, w37, w38]))] sz) := by
  refine ofN (by decide) (Nat.le_of_ble_eq_true rfl) rfl ?_
  intro p e s m args below meth c A ls hAe hsz hx hb hml hr hlocks hin hown hE hP hD hA hS hl
  have hown : s.vm.findClass RX10 = some m.cls := hown
  refine lv_aload_n hx hb dX10_many_0 rfl (lv_at hl 0 rfl) ?_
  refine gf_RX10_9 hx hb hown hE hP 1 rfl rfl dX10_many_1 ?_
  refine lv_iload_n hx hb dX10_many_4 rfl (lv_at hl 1 rfl) ?_
  refine g0_i (rS (rest := [.ref q39]) hx hb hml hown hE hP hD (c203_X10_itemsAt l g s.heap.size) (kS_X10_itemsAt hE (e1445 hE) rfl rfl ⟨(Nat.le_of_ble_eq_true rfl), (Nat.le_of_ble_eq_true rfl)⟩) [] rfl (by decide) rfl hl.1 rfl (lv_room (Nat.le_of_ble_eq_true rfl)) dX10_many_5 ⟨(Nat.le_of_ble_eq_true rfl), (Nat.le_of_ble_eq_true rfl)⟩) hP hD hS hA (fun u9 H locs hP hS => ?_)
  refine x_iald (v := 1) hx hb hE hP 0 rfl 49 (x_in (by decide)) (by decide) hf41 dX10_many_8 ?_
  exact x_zret hx hb hr rfl rfl hlocks hP hD hS hAe hsz (Nat.le_of_ble_eq_true rfl) (Nat.le_of_ble_eq_true rfl) (fun _ => 0) [0, 1] (by decide) rfl dX10_many_9

set_option maxHeartbeats 4000000 in
set_option maxRecDepth 100000 in
theorem c249_X10_of (l : Launch) (g : gG) (q1 q39 : Nat) (w3 w4 w5 w6 w7 w8 w9 w10 w11 w12 w13 w14 w15 w16 w17 w18 w19 w20 w21 w22 w23 w24 w25 w26 w27 w28 w29 w30 w31 w32 w33 w34 w35 w36 w37 w38 : Value) (f40 : Nat → Int32) (hf41 : f40 50 = 0) (sz : Nat) : Met l yX10_of [Cond.code yX10_of cX10_of 4 (some .int)] ({ frames := 1, cells := 0, slots := 0, locals := 20 } : Room) (va_Pc [.ref q1, .int 1, .int 0, .int 0] (PX g sz [(q39, .inl (g.2 0, 497, .inl f40)), (q1, .inr (12, [.ref q39, w3, w4, w5, w6, w7, w8, w9, w10, w11, w12, w13, w14, w15, w16, w17, w18, w19, w20, w21, w22, w23, w24, w25, w26, w27, w28, w29, w30, w31, w32, w33, w34, w35, w36, w37, w38]))])) (QI g [(q39, .inl (g.2 0, 497, .inl f40)), (q1, .inr (12, [.ref q39, w3, w4, w5, w6, w7, w8, w9, w10, w11, w12, w13, w14, w15, w16, w17, w18, w19, w20, w21, w22, w23, w24, w25, w26, w27, w28, w29, w30, w31, w32, w33, w34, w35, w36, w37, w38]))] sz 0 (fun _ => [(q39, .inl (g.2 0, 497, .inl f40)), (q1, .inr (12, [.ref q39, w3, w4, w5, w6, w7, w8, w9, w10, w11, w12, w13, w14, w15, w16, w17, w18, w19, w20, w21, w22, w23, w24, w25, w26, w27, w28, w29, w30, w31, w32, w33, w34, w35, w36, w37, w38]))])) 0 0 (va_A [(q39, .inl (g.2 0, 497, .inl f40)), (q1, .inr (12, [.ref q39, w3, w4, w5, w6, w7, w8, w9, w10, w11, w12, w13, w14, w15, w16, w17, w18, w19, w20, w21, w22, w23, w24, w25, w26, w27, w28, w29, w30, w31, w32, w33, w34, w35, w36, w37, w38]))] sz) := by
  refine ofN (by decide) (Nat.le_of_ble_eq_true rfl) rfl ?_
  intro p e s m args below meth c A ls hAe hsz hx hb hml hr hlocks hin hown hE hP hD hA hS hl
  have hown : s.vm.findClass RX10 = some m.cls := hown
  refine lv_aload_n hx hb dX10_of_0 rfl (lv_at hl 0 rfl) ?_
  refine gf_RX10_9 hx hb hown hE hP 1 rfl rfl dX10_of_1 ?_
  refine lv_iload_n hx hb dX10_of_4 rfl (lv_at hl 1 rfl) ?_
  refine g0_i (rS (rest := [.ref q39]) hx hb hml hown hE hP hD (c203_X10_itemsAt l g s.heap.size) (kS_X10_itemsAt hE (e1445 hE) rfl rfl ⟨(Nat.le_of_ble_eq_true rfl), (Nat.le_of_ble_eq_true rfl)⟩) [] rfl (by decide) rfl hl.1 rfl (lv_room (Nat.le_of_ble_eq_true rfl)) dX10_of_5 ⟨(Nat.le_of_ble_eq_true rfl), (Nat.le_of_ble_eq_true rfl)⟩) hP hD hS hA (fun u9 H locs hP hS => ?_)
  refine lv_iconst (v := 1) hx hb dX10_of_8 (by decide) ?_
  refine x_iadd (v := 50) hx hb dX10_of_9 (by decide) ?_
  refine lv_iconst (v := 4) hx hb dX10_of_10 (by decide) ?_
  refine lv_iload_n hx hb dX10_of_11 rfl (lv_at hl 2 rfl) ?_
  refine x_imul (v := 0) hx hb dX10_of_12 (by decide) ?_
  refine x_iadd (v := 50) hx hb dX10_of_13 (by decide) ?_
  refine lv_iload_n hx hb dX10_of_14 rfl (lv_at hl 3 rfl) ?_
  refine x_iadd (v := 50) hx hb dX10_of_15 (by decide) ?_
  refine x_iald (v := 0) hx hb hE hP 0 rfl 50 (x_in (by decide)) (by decide) hf41 dX10_of_16 ?_
  exact x_zret hx hb hr rfl rfl hlocks hP hD hS hAe hsz (Nat.le_of_ble_eq_true rfl) (Nat.le_of_ble_eq_true rfl) (fun _ => 0) [0, 1] (by decide) rfl dX10_of_17

set_option maxHeartbeats 4000000 in
set_option maxRecDepth 100000 in
theorem c250_X10_of (l : Launch) (g : gG) (q1 q39 : Nat) (x42 : Int32) (w3 w4 w5 w6 w7 w8 w9 w10 w11 w12 w13 w14 w15 w16 w17 w18 w19 w20 w21 w22 w23 w24 w25 w26 w27 w28 w29 w30 w31 w32 w33 w34 w35 w36 w37 w38 : Value) (f40 : Nat → Int32) (hf41 : f40 52 = x42) (sz : Nat) : Met l yX10_of [Cond.code yX10_of cX10_of 4 (some .int)] ({ frames := 1, cells := 0, slots := 0, locals := 20 } : Room) (va_Pc [.ref q1, .int 1, .int 0, .int 2] (PX g sz [(q39, .inl (g.2 0, 497, .inl f40)), (q1, .inr (12, [.ref q39, w3, w4, w5, w6, w7, w8, w9, w10, w11, w12, w13, w14, w15, w16, w17, w18, w19, w20, w21, w22, w23, w24, w25, w26, w27, w28, w29, w30, w31, w32, w33, w34, w35, w36, w37, w38]))])) (QI g [(q39, .inl (g.2 0, 497, .inl f40)), (q1, .inr (12, [.ref q39, w3, w4, w5, w6, w7, w8, w9, w10, w11, w12, w13, w14, w15, w16, w17, w18, w19, w20, w21, w22, w23, w24, w25, w26, w27, w28, w29, w30, w31, w32, w33, w34, w35, w36, w37, w38]))] sz x42 (fun _ => [(q39, .inl (g.2 0, 497, .inl f40)), (q1, .inr (12, [.ref q39, w3, w4, w5, w6, w7, w8, w9, w10, w11, w12, w13, w14, w15, w16, w17, w18, w19, w20, w21, w22, w23, w24, w25, w26, w27, w28, w29, w30, w31, w32, w33, w34, w35, w36, w37, w38]))])) 0 0 (va_A [(q39, .inl (g.2 0, 497, .inl f40)), (q1, .inr (12, [.ref q39, w3, w4, w5, w6, w7, w8, w9, w10, w11, w12, w13, w14, w15, w16, w17, w18, w19, w20, w21, w22, w23, w24, w25, w26, w27, w28, w29, w30, w31, w32, w33, w34, w35, w36, w37, w38]))] sz) := by
  refine ofN (by decide) (Nat.le_of_ble_eq_true rfl) rfl ?_
  intro p e s m args below meth c A ls hAe hsz hx hb hml hr hlocks hin hown hE hP hD hA hS hl
  have hown : s.vm.findClass RX10 = some m.cls := hown
  refine lv_aload_n hx hb dX10_of_0 rfl (lv_at hl 0 rfl) ?_
  refine gf_RX10_9 hx hb hown hE hP 1 rfl rfl dX10_of_1 ?_
  refine lv_iload_n hx hb dX10_of_4 rfl (lv_at hl 1 rfl) ?_
  refine g0_i (rS (rest := [.ref q39]) hx hb hml hown hE hP hD (c203_X10_itemsAt l g s.heap.size) (kS_X10_itemsAt hE (e1445 hE) rfl rfl ⟨(Nat.le_of_ble_eq_true rfl), (Nat.le_of_ble_eq_true rfl)⟩) [] rfl (by decide) rfl hl.1 rfl (lv_room (Nat.le_of_ble_eq_true rfl)) dX10_of_5 ⟨(Nat.le_of_ble_eq_true rfl), (Nat.le_of_ble_eq_true rfl)⟩) hP hD hS hA (fun u9 H locs hP hS => ?_)
  refine lv_iconst (v := 1) hx hb dX10_of_8 (by decide) ?_
  refine x_iadd (v := 50) hx hb dX10_of_9 (by decide) ?_
  refine lv_iconst (v := 4) hx hb dX10_of_10 (by decide) ?_
  refine lv_iload_n hx hb dX10_of_11 rfl (lv_at hl 2 rfl) ?_
  refine x_imul (v := 0) hx hb dX10_of_12 (by decide) ?_
  refine x_iadd (v := 50) hx hb dX10_of_13 (by decide) ?_
  refine lv_iload_n hx hb dX10_of_14 rfl (lv_at hl 3 rfl) ?_
  refine x_iadd (v := 52) hx hb dX10_of_15 (by decide) ?_
  refine x_iald (v := x42) hx hb hE hP 0 rfl 52 (x_in (by decide)) (by decide) hf41 dX10_of_16 ?_
  exact x_zret hx hb hr rfl rfl hlocks hP hD hS hAe hsz (Nat.le_of_ble_eq_true rfl) (Nat.le_of_ble_eq_true rfl) (fun _ => 0) [0, 1] (by decide) rfl dX10_of_17

set_option maxHeartbeats 4000000 in
set_option maxRecDepth 100000 in
theorem c251_X10_layLengths (l : Launch) (g : gG) (q1 q39 q42 q45 : Nat) (x49 : Int32) (w3 w4 w5 w6 w7 w8 w11 w12 w13 w14 w15 w16 w17 w18 w19 w20 w21 w22 w23 w24 w25 w26 w27 w28 w29 w30 w31 w32 w33 w34 w35 w36 w37 w38 : Value) (f40 : Nat → Int32) (f43 : Nat → Int32) (hf41 : f40 0 = 0) (hf44 : f43 0 = 0) (hf46 : f40 49 = 1) (hf47 : f40 50 = 0) (hf48 : f40 52 = x49) (hf51 : f40 98 = 0) (hf52 : f43 2 = 0) (hf53 : f40 147 = 0) (hf54 : f43 3 = 0) (hf55 : f40 196 = 0) (hf56 : f43 4 = 0) (hf57 : f40 245 = 0) (hf58 : f43 5 = 0) (hf59 : f40 294 = 0) (hf60 : f43 6 = 0) (hf61 : f40 343 = 0) (hf62 : f43 7 = 0) (h50 : x49 ≤ 200000) (sz : Nat) : Met l yX10_layLengths [Cond.code yX10_layLengths cX10_layLengths 6 none] ({ frames := 2, cells := 0, slots := 0, locals := 43 } : Room) (va_Pc [.ref q1] (PX g sz [(q45, .inl (g.2 0, 8, .inl f43)), (q42, .inl (g.2 0, 8, .inl f43)), (q39, .inl (g.2 0, 497, .inl f40)), (q1, .inr (12, [.ref q39, w3, w4, w5, w6, w7, w8, .ref q42, .ref q45, w11, w12, w13, w14, w15, w16, w17, w18, w19, w20, w21, w22, w23, w24, w25, w26, w27, w28, w29, w30, w31, w32, w33, w34, w35, w36, w37, w38]))])) (QV g [(q45, .inl (g.2 0, 8, .inl f43)), (q42, .inl (g.2 0, 8, .inl f43)), (q39, .inl (g.2 0, 497, .inl f40)), (q1, .inr (12, [.ref q39, w3, w4, w5, w6, w7, w8, .ref q42, .ref q45, w11, w12, w13, w14, w15, w16, w17, w18, w19, w20, w21, w22, w23, w24, w25, w26, w27, w28, w29, w30, w31, w32, w33, w34, w35, w36, w37, w38]))] sz (fun _ => [(q45, .inl (g.2 0, 8, .inl (upd f43 1 1))), (q42, .inl (g.2 0, 8, .inl (upd f43 1 x49))), (q39, .inl (g.2 0, 497, .inl f40)), (q1, .inr (12, [.ref q39, w3, w4, w5, w6, w7, w8, .ref q42, .ref q45, w11, w12, w13, w14, w15, w16, w17, w18, w19, w20, w21, w22, w23, w24, w25, w26, w27, w28, w29, w30, w31, w32, w33, w34, w35, w36, w37, w38]))])) 0 0 (va_A [(q45, .inl (g.2 0, 8, .inl f43)), (q42, .inl (g.2 0, 8, .inl f43)), (q39, .inl (g.2 0, 497, .inl f40)), (q1, .inr (12, [.ref q39, w3, w4, w5, w6, w7, w8, .ref q42, .ref q45, w11, w12, w13, w14, w15, w16, w17, w18, w19, w20, w21, w22, w23, w24, w25, w26, w27, w28, w29, w30, w31, w32, w33, w34, w35, w36, w37, w38]))] sz) := by
  refine ofN (by decide) (Nat.le_of_ble_eq_true rfl) rfl ?_
  intro p e s m args below meth c A ls hAe hsz hx hb hml hr hlocks hin hown hE hP hD hA hS hl
  have hown : s.vm.findClass RX10 = some m.cls := hown
  refine lv_iconst (v := 0) hx hb dX10_layLengths_0 (by decide) ?_
  refine lv_istore_n (lv' := [(1, .int 0), (0, .ref q1)]) hx hb dX10_layLengths_1 rfl hl (by decide) rfl (fun ls hl => ?_)
  refine lv_iload_n hx hb dX10_layLengths_2 rfl (lv_at hl 0 rfl) ?_
  refine lv_bipush (v := 8) hx hb dX10_layLengths_3 (by decide) ?_
  refine lv_icmp_ge (tgt := 164) hx hb dX10_layLengths_5 (by decide) (fun h => absurd h (by decide)) (fun _ => ?_)
  refine lv_iconst (v := 0) hx hb dX10_layLengths_8 (by decide) ?_
  refine lv_istore_n (lv' := [(2, .int 0), (1, .int 0), (0, .ref q1)]) hx hb dX10_layLengths_9 rfl hl (by decide) rfl (fun ls hl => ?_)
  refine lv_iconst (v := 0) hx hb dX10_layLengths_10 (by decide) ?_
  refine lv_istore_n (lv' := [(3, .int 0), (2, .int 0), (1, .int 0), (0, .ref q1)]) hx hb dX10_layLengths_11 rfl hl (by decide) rfl (fun ls hl => ?_)
  refine lv_iconst (v := 0) hx hb dX10_layLengths_12 (by decide) ?_
  refine lv_istore (lv' := [(4, .int 0), (3, .int 0), (2, .int 0), (1, .int 0), (0, .ref q1)]) hx hb dX10_layLengths_13 hl (by decide) rfl (fun ls hl => ?_)
  refine lv_iload hx hb dX10_layLengths_15 (lv_at hl 0 rfl) ?_
  refine lv_aload_n hx hb dX10_layLengths_17 rfl (lv_at hl 4 rfl) ?_
  refine lv_iload_n hx hb dX10_layLengths_18 rfl (lv_at hl 3 rfl) ?_
  refine g_i (wr := [(q45, .inl (g.2 0, 8, .inl f43)), (q42, .inl (g.2 0, 8, .inl f43))]) (rV (rest := [.int 0]) hx hb hml hown hE hP hD 3 rfl rfl (c247_X10_many l g q1 q39 w3 w4 w5 w6 w7 w8 (.ref q42) (.ref q45) w11 w12 w13 w14 w15 w16 w17 w18 w19 w20 w21 w22 w23 w24 w25 w26 w27 w28 w29 w30 w31 w32 w33 w34 w35 w36 w37 w38 f40 (hf41) s.heap.size) (kV_X10_many hE (e1456 hE) rfl rfl ⟨(Nat.le_of_ble_eq_true rfl), (Nat.le_of_ble_eq_true rfl)⟩) [2, 3] rfl (by decide) rfl hl.1 rfl (lv_room (Nat.le_of_ble_eq_true rfl)) dX10_layLengths_19 ⟨(Nat.le_of_ble_eq_true rfl), (Nat.le_of_ble_eq_true rfl)⟩) hP hD hS hA [2, 3] [0, 1] rfl rfl (by decide) (by decide) (fun u1 H locs hP hD hS => ?_)
  have hP : va_P g.1 vwCl [(q45, .inl (g.2 0, 8, .inl f43)), (q42, .inl (g.2 0, 8, .inl f43)), (q39, .inl (g.2 0, 497, .inl f40)), (q1, .inr (12, [.ref q39, w3, w4, w5, w6, w7, w8, .ref q42, .ref q45, w11, w12, w13, w14, w15, w16, w17, w18, w19, w20, w21, w22, w23, w24, w25, w26, w27, w28, w29, w30, w31, w32, w33, w34, w35, w36, w37, w38]))] H := hP
  have hD : va_D A [(q45, .inl (g.2 0, 8, .inl f43)), (q42, .inl (g.2 0, 8, .inl f43)), (q39, .inl (g.2 0, 497, .inl f40)), (q1, .inr (12, [.ref q39, w3, w4, w5, w6, w7, w8, .ref q42, .ref q45, w11, w12, w13, w14, w15, w16, w17, w18, w19, w20, w21, w22, w23, w24, w25, w26, w27, w28, w29, w30, w31, w32, w33, w34, w35, w36, w37, w38]))] := hD
  refine lv_icmp_ge (tgt := 134) hx hb dX10_layLengths_22 (by decide) (fun _ => ?_) (fun h => absurd (by decide) h)
  refine lv_aload_n hx hb dX10_layLengths_134 rfl (lv_at hl 4 rfl) ?_
  refine gf_RX10_22 hx hb hown hE hP 3 rfl rfl dX10_layLengths_135 ?_
  refine lv_iload_n hx hb dX10_layLengths_138 rfl (lv_at hl 3 rfl) ?_
  refine lv_iload_n hx hb dX10_layLengths_139 rfl (lv_at hl 2 rfl) ?_
  refine lv_ldc (v := 200000) hx hb hown (e1464 hE) dX10_layLengths_140 ?_
  refine x_mmin (v := 0) hx hb (by rw [hml]; exact hl.1.symm) hown (e1465 hE) (e362 hE) (e9 hE) (e363 hE) (Nat.le_of_ble_eq_true rfl) (Nat.le_of_ble_eq_true rfl) (Nat.le_of_ble_eq_true rfl) (Nat.le_of_ble_eq_true rfl) (by decide) dX10_layLengths_142 ?_
  refine x_iast_same hx hb hE hP hD hS 1 rfl 0 (x_in (by decide)) (by decide) hf44 dX10_layLengths_145 (fun H locs hP hD hS => ?_)
  refine lv_aload_n hx hb dX10_layLengths_146 rfl (lv_at hl 4 rfl) ?_
  refine gf_RX10_25 hx hb hown hE hP 3 rfl rfl dX10_layLengths_147 ?_
  refine lv_iload_n hx hb dX10_layLengths_150 rfl (lv_at hl 3 rfl) ?_
  refine lv_iload_n hx hb dX10_layLengths_151 rfl (lv_at hl 1 rfl) ?_
  refine lv_ldc (v := 200000) hx hb hown (e1464 hE) dX10_layLengths_152 ?_
  refine x_mmin (v := 0) hx hb (by rw [hml]; exact hl.1.symm) hown (e1465 hE) (e362 hE) (e9 hE) (e363 hE) (Nat.le_of_ble_eq_true rfl) (Nat.le_of_ble_eq_true rfl) (Nat.le_of_ble_eq_true rfl) (Nat.le_of_ble_eq_true rfl) (by decide) dX10_layLengths_154 ?_
  refine x_iast_same hx hb hE hP hD hS 0 rfl 0 (x_in (by decide)) (by decide) hf44 dX10_layLengths_157 (fun H locs hP hD hS => ?_)
  refine lv_iinc (v := 1) (lv' := [(1, .int 1), (4, .int 0), (3, .int 0), (2, .int 0), (0, .ref q1)]) hx hb dX10_layLengths_158 hl (k := 3) rfl (by decide) (by decide) rfl (fun ls hl => ?_)
  refine lv_goto (tgt := 2) hx hb dX10_layLengths_161 (by decide) ?_
  refine lv_iload_n hx hb dX10_layLengths_2 rfl (lv_at hl 0 rfl) ?_
  refine lv_bipush (v := 8) hx hb dX10_layLengths_3 (by decide) ?_
  refine lv_icmp_ge (tgt := 164) hx hb dX10_layLengths_5 (by decide) (fun h => absurd h (by decide)) (fun _ => ?_)
  refine lv_iconst (v := 0) hx hb dX10_layLengths_8 (by decide) ?_
  refine lv_istore_n (lv' := [(2, .int 0), (1, .int 1), (4, .int 0), (3, .int 0), (0, .ref q1)]) hx hb dX10_layLengths_9 rfl hl (by decide) rfl (fun ls hl => ?_)
  refine lv_iconst (v := 0) hx hb dX10_layLengths_10 (by decide) ?_
  refine lv_istore_n (lv' := [(3, .int 0), (2, .int 0), (1, .int 1), (4, .int 0), (0, .ref q1)]) hx hb dX10_layLengths_11 rfl hl (by decide) rfl (fun ls hl => ?_)
  refine lv_iconst (v := 0) hx hb dX10_layLengths_12 (by decide) ?_
  refine lv_istore (lv' := [(4, .int 0), (3, .int 0), (2, .int 0), (1, .int 1), (0, .ref q1)]) hx hb dX10_layLengths_13 hl (by decide) rfl (fun ls hl => ?_)
  refine lv_iload hx hb dX10_layLengths_15 (lv_at hl 0 rfl) ?_
  refine lv_aload_n hx hb dX10_layLengths_17 rfl (lv_at hl 4 rfl) ?_
  refine lv_iload_n hx hb dX10_layLengths_18 rfl (lv_at hl 3 rfl) ?_
  refine g_i (wr := [(q45, .inl (g.2 0, 8, .inl f43)), (q42, .inl (g.2 0, 8, .inl f43))]) (rV (rest := [.int 0]) hx hb hml hown hE hP hD 3 rfl rfl (c248_X10_many l g q1 q39 w3 w4 w5 w6 w7 w8 (.ref q42) (.ref q45) w11 w12 w13 w14 w15 w16 w17 w18 w19 w20 w21 w22 w23 w24 w25 w26 w27 w28 w29 w30 w31 w32 w33 w34 w35 w36 w37 w38 f40 (hf46) H.size) (kV_X10_many hE (e1456 hE) rfl rfl ⟨(Nat.le_of_ble_eq_true rfl), (Nat.le_of_ble_eq_true rfl)⟩) [2, 3] rfl (by decide) rfl hl.1 rfl (lv_room (Nat.le_of_ble_eq_true rfl)) dX10_layLengths_19 ⟨(Nat.le_of_ble_eq_true rfl), (Nat.le_of_ble_eq_true rfl)⟩) hP hD hS hA [2, 3] [0, 1] rfl rfl (by decide) (by decide) (fun u2 H locs hP hD hS => ?_)
  have hP : va_P g.1 vwCl [(q45, .inl (g.2 0, 8, .inl f43)), (q42, .inl (g.2 0, 8, .inl f43)), (q39, .inl (g.2 0, 497, .inl f40)), (q1, .inr (12, [.ref q39, w3, w4, w5, w6, w7, w8, .ref q42, .ref q45, w11, w12, w13, w14, w15, w16, w17, w18, w19, w20, w21, w22, w23, w24, w25, w26, w27, w28, w29, w30, w31, w32, w33, w34, w35, w36, w37, w38]))] H := hP
  have hD : va_D A [(q45, .inl (g.2 0, 8, .inl f43)), (q42, .inl (g.2 0, 8, .inl f43)), (q39, .inl (g.2 0, 497, .inl f40)), (q1, .inr (12, [.ref q39, w3, w4, w5, w6, w7, w8, .ref q42, .ref q45, w11, w12, w13, w14, w15, w16, w17, w18, w19, w20, w21, w22, w23, w24, w25, w26, w27, w28, w29, w30, w31, w32, w33, w34, w35, w36, w37, w38]))] := hD
  refine lv_icmp_ge (tgt := 134) hx hb dX10_layLengths_22 (by decide) (fun h => absurd h (by decide)) (fun _ => ?_)
  refine lv_aload_n hx hb dX10_layLengths_25 rfl (lv_at hl 4 rfl) ?_
  refine lv_iload_n hx hb dX10_layLengths_26 rfl (lv_at hl 3 rfl) ?_
  refine lv_iload hx hb dX10_layLengths_27 (lv_at hl 0 rfl) ?_
  refine lv_iconst (v := 0) hx hb dX10_layLengths_29 (by decide) ?_
  refine g_i (wr := [(q45, .inl (g.2 0, 8, .inl f43)), (q42, .inl (g.2 0, 8, .inl f43))]) (rV (rest := []) hx hb hml hown hE hP hD 3 rfl rfl (c249_X10_of l g q1 q39 w3 w4 w5 w6 w7 w8 (.ref q42) (.ref q45) w11 w12 w13 w14 w15 w16 w17 w18 w19 w20 w21 w22 w23 w24 w25 w26 w27 w28 w29 w30 w31 w32 w33 w34 w35 w36 w37 w38 f40 (hf47) H.size) (kV_X10_of hE (e1460 hE) rfl rfl ⟨(Nat.le_of_ble_eq_true rfl), (Nat.le_of_ble_eq_true rfl)⟩) [2, 3] rfl (by decide) rfl hl.1 rfl (lv_room (Nat.le_of_ble_eq_true rfl)) dX10_layLengths_30 ⟨(Nat.le_of_ble_eq_true rfl), (Nat.le_of_ble_eq_true rfl)⟩) hP hD hS hA [2, 3] [0, 1] rfl rfl (by decide) (by decide) (fun u3 H locs hP hD hS => ?_)
  have hP : va_P g.1 vwCl [(q45, .inl (g.2 0, 8, .inl f43)), (q42, .inl (g.2 0, 8, .inl f43)), (q39, .inl (g.2 0, 497, .inl f40)), (q1, .inr (12, [.ref q39, w3, w4, w5, w6, w7, w8, .ref q42, .ref q45, w11, w12, w13, w14, w15, w16, w17, w18, w19, w20, w21, w22, w23, w24, w25, w26, w27, w28, w29, w30, w31, w32, w33, w34, w35, w36, w37, w38]))] H := hP
  have hD : va_D A [(q45, .inl (g.2 0, 8, .inl f43)), (q42, .inl (g.2 0, 8, .inl f43)), (q39, .inl (g.2 0, 497, .inl f40)), (q1, .inr (12, [.ref q39, w3, w4, w5, w6, w7, w8, .ref q42, .ref q45, w11, w12, w13, w14, w15, w16, w17, w18, w19, w20, w21, w22, w23, w24, w25, w26, w27, w28, w29, w30, w31, w32, w33, w34, w35, w36, w37, w38]))] := hD
  refine lv_iconst (v := 2) hx hb dX10_layLengths_33 (by decide) ?_
  refine lv_icmp_ne (tgt := 41) hx hb dX10_layLengths_34 (by decide) (fun _ => ?_) (fun h => absurd h (by decide))
  refine lv_iconst (v := 0) hx hb dX10_layLengths_41 (by decide) ?_
  refine lv_istore (lv' := [(5, .int 0), (4, .int 0), (3, .int 0), (2, .int 0), (1, .int 1), (0, .ref q1)]) hx hb dX10_layLengths_42 hl (by decide) rfl (fun ls hl => ?_)
  refine lv_iload_n hx hb dX10_layLengths_44 rfl (lv_at hl 3 rfl) ?_
  refine lv_iload hx hb dX10_layLengths_45 (lv_at hl 0 rfl) ?_
  refine lv_if_eq (tgt := 75) hx hb dX10_layLengths_47 (by decide) (fun _ => ?_) (fun h => absurd (by decide) h)
  refine lv_aload_n hx hb dX10_layLengths_75 rfl (lv_at hl 5 rfl) ?_
  refine lv_iload_n hx hb dX10_layLengths_76 rfl (lv_at hl 4 rfl) ?_
  refine lv_iload hx hb dX10_layLengths_77 (lv_at hl 1 rfl) ?_
  refine lv_iconst (v := 2) hx hb dX10_layLengths_79 (by decide) ?_
  refine g_i (wr := [(q45, .inl (g.2 0, 8, .inl f43)), (q42, .inl (g.2 0, 8, .inl f43))]) (rV (rest := [.int 0]) hx hb hml hown hE hP hD 3 rfl rfl (c250_X10_of l g q1 q39 x49 w3 w4 w5 w6 w7 w8 (.ref q42) (.ref q45) w11 w12 w13 w14 w15 w16 w17 w18 w19 w20 w21 w22 w23 w24 w25 w26 w27 w28 w29 w30 w31 w32 w33 w34 w35 w36 w37 w38 f40 (hf48) H.size) (kV_X10_of hE (e1460 hE) rfl rfl ⟨(Nat.le_of_ble_eq_true rfl), (Nat.le_of_ble_eq_true rfl)⟩) [2, 3] rfl (by decide) rfl hl.1 rfl (lv_room (Nat.le_of_ble_eq_true rfl)) dX10_layLengths_80 ⟨(Nat.le_of_ble_eq_true rfl), (Nat.le_of_ble_eq_true rfl)⟩) hP hD hS hA [2, 3] [0, 1] rfl rfl (by decide) (by decide) (fun u4 H locs hP hD hS => ?_)
  have hP : va_P g.1 vwCl [(q45, .inl (g.2 0, 8, .inl f43)), (q42, .inl (g.2 0, 8, .inl f43)), (q39, .inl (g.2 0, 497, .inl f40)), (q1, .inr (12, [.ref q39, w3, w4, w5, w6, w7, w8, .ref q42, .ref q45, w11, w12, w13, w14, w15, w16, w17, w18, w19, w20, w21, w22, w23, w24, w25, w26, w27, w28, w29, w30, w31, w32, w33, w34, w35, w36, w37, w38]))] H := hP
  have hD : va_D A [(q45, .inl (g.2 0, 8, .inl f43)), (q42, .inl (g.2 0, 8, .inl f43)), (q39, .inl (g.2 0, 497, .inl f40)), (q1, .inr (12, [.ref q39, w3, w4, w5, w6, w7, w8, .ref q42, .ref q45, w11, w12, w13, w14, w15, w16, w17, w18, w19, w20, w21, w22, w23, w24, w25, w26, w27, w28, w29, w30, w31, w32, w33, w34, w35, w36, w37, w38]))] := hD
  refine x_iadd (v := x49) hx hb dX10_layLengths_83 (Int32.zero_add _) ?_
  refine lv_istore_n (lv' := [(2, .int x49), (5, .int 0), (4, .int 0), (3, .int 0), (1, .int 1), (0, .ref q1)]) hx hb dX10_layLengths_84 rfl hl (by decide) rfl (fun ls hl => ?_)
  refine lv_iload_n hx hb dX10_layLengths_85 rfl (lv_at hl 3 rfl) ?_
  refine lv_iload hx hb dX10_layLengths_86 (lv_at hl 1 rfl) ?_
  refine lv_if_eq (tgt := 116) hx hb dX10_layLengths_88 (by decide) (fun _ => ?_) (fun h => absurd (by decide) h)
  refine lv_iconst (v := 1) hx hb dX10_layLengths_116 (by decide) ?_
  refine lv_aload_n hx hb dX10_layLengths_117 rfl (lv_at hl 5 rfl) ?_
  refine lv_iload_n hx hb dX10_layLengths_118 rfl (lv_at hl 4 rfl) ?_
  refine lv_iload hx hb dX10_layLengths_119 (lv_at hl 2 rfl) ?_
  refine lv_iconst (v := 0) hx hb dX10_layLengths_121 (by decide) ?_
  refine g_i (wr := [(q45, .inl (g.2 0, 8, .inl f43)), (q42, .inl (g.2 0, 8, .inl f43))]) (rV (rest := [.int 1, .int 0]) hx hb hml hown hE hP hD 3 rfl rfl (c249_X10_of l g q1 q39 w3 w4 w5 w6 w7 w8 (.ref q42) (.ref q45) w11 w12 w13 w14 w15 w16 w17 w18 w19 w20 w21 w22 w23 w24 w25 w26 w27 w28 w29 w30 w31 w32 w33 w34 w35 w36 w37 w38 f40 (hf47) H.size) (kV_X10_of hE (e1460 hE) rfl rfl ⟨(Nat.le_of_ble_eq_true rfl), (Nat.le_of_ble_eq_true rfl)⟩) [2, 3] rfl (by decide) rfl hl.1 rfl (lv_room (Nat.le_of_ble_eq_true rfl)) dX10_layLengths_122 ⟨(Nat.le_of_ble_eq_true rfl), (Nat.le_of_ble_eq_true rfl)⟩) hP hD hS hA [2, 3] [0, 1] rfl rfl (by decide) (by decide) (fun u5 H locs hP hD hS => ?_)
  have hP : va_P g.1 vwCl [(q45, .inl (g.2 0, 8, .inl f43)), (q42, .inl (g.2 0, 8, .inl f43)), (q39, .inl (g.2 0, 497, .inl f40)), (q1, .inr (12, [.ref q39, w3, w4, w5, w6, w7, w8, .ref q42, .ref q45, w11, w12, w13, w14, w15, w16, w17, w18, w19, w20, w21, w22, w23, w24, w25, w26, w27, w28, w29, w30, w31, w32, w33, w34, w35, w36, w37, w38]))] H := hP
  have hD : va_D A [(q45, .inl (g.2 0, 8, .inl f43)), (q42, .inl (g.2 0, 8, .inl f43)), (q39, .inl (g.2 0, 497, .inl f40)), (q1, .inr (12, [.ref q39, w3, w4, w5, w6, w7, w8, .ref q42, .ref q45, w11, w12, w13, w14, w15, w16, w17, w18, w19, w20, w21, w22, w23, w24, w25, w26, w27, w28, w29, w30, w31, w32, w33, w34, w35, w36, w37, w38]))] := hD
  refine x_isub (v := 1) hx hb dX10_layLengths_125 (by decide) ?_
  refine x_iadd (v := 1) hx hb dX10_layLengths_126 (by decide) ?_
  refine lv_istore_n (lv' := [(3, .int 1), (2, .int x49), (5, .int 0), (4, .int 0), (1, .int 1), (0, .ref q1)]) hx hb dX10_layLengths_127 rfl hl (by decide) rfl (fun ls hl => ?_)
  refine lv_iinc (v := 1) (lv' := [(4, .int 1), (3, .int 1), (2, .int x49), (5, .int 0), (1, .int 1), (0, .ref q1)]) hx hb dX10_layLengths_128 hl (k := 3) rfl (by decide) (by decide) rfl (fun ls hl => ?_)
  refine lv_goto (tgt := 15) hx hb dX10_layLengths_131 (by decide) ?_
  refine lv_iload hx hb dX10_layLengths_15 (lv_at hl 0 rfl) ?_
  refine lv_aload_n hx hb dX10_layLengths_17 rfl (lv_at hl 5 rfl) ?_
  refine lv_iload_n hx hb dX10_layLengths_18 rfl (lv_at hl 4 rfl) ?_
  refine g_i (wr := [(q45, .inl (g.2 0, 8, .inl f43)), (q42, .inl (g.2 0, 8, .inl f43))]) (rV (rest := [.int 1]) hx hb hml hown hE hP hD 3 rfl rfl (c248_X10_many l g q1 q39 w3 w4 w5 w6 w7 w8 (.ref q42) (.ref q45) w11 w12 w13 w14 w15 w16 w17 w18 w19 w20 w21 w22 w23 w24 w25 w26 w27 w28 w29 w30 w31 w32 w33 w34 w35 w36 w37 w38 f40 (hf46) H.size) (kV_X10_many hE (e1456 hE) rfl rfl ⟨(Nat.le_of_ble_eq_true rfl), (Nat.le_of_ble_eq_true rfl)⟩) [2, 3] rfl (by decide) rfl hl.1 rfl (lv_room (Nat.le_of_ble_eq_true rfl)) dX10_layLengths_19 ⟨(Nat.le_of_ble_eq_true rfl), (Nat.le_of_ble_eq_true rfl)⟩) hP hD hS hA [2, 3] [0, 1] rfl rfl (by decide) (by decide) (fun u6 H locs hP hD hS => ?_)
  have hP : va_P g.1 vwCl [(q45, .inl (g.2 0, 8, .inl f43)), (q42, .inl (g.2 0, 8, .inl f43)), (q39, .inl (g.2 0, 497, .inl f40)), (q1, .inr (12, [.ref q39, w3, w4, w5, w6, w7, w8, .ref q42, .ref q45, w11, w12, w13, w14, w15, w16, w17, w18, w19, w20, w21, w22, w23, w24, w25, w26, w27, w28, w29, w30, w31, w32, w33, w34, w35, w36, w37, w38]))] H := hP
  have hD : va_D A [(q45, .inl (g.2 0, 8, .inl f43)), (q42, .inl (g.2 0, 8, .inl f43)), (q39, .inl (g.2 0, 497, .inl f40)), (q1, .inr (12, [.ref q39, w3, w4, w5, w6, w7, w8, .ref q42, .ref q45, w11, w12, w13, w14, w15, w16, w17, w18, w19, w20, w21, w22, w23, w24, w25, w26, w27, w28, w29, w30, w31, w32, w33, w34, w35, w36, w37, w38]))] := hD
  refine lv_icmp_ge (tgt := 134) hx hb dX10_layLengths_22 (by decide) (fun _ => ?_) (fun h => absurd (by decide) h)
  refine lv_aload_n hx hb dX10_layLengths_134 rfl (lv_at hl 5 rfl) ?_
  refine gf_RX10_22 hx hb hown hE hP 3 rfl rfl dX10_layLengths_135 ?_
  refine lv_iload_n hx hb dX10_layLengths_138 rfl (lv_at hl 4 rfl) ?_
  refine lv_iload_n hx hb dX10_layLengths_139 rfl (lv_at hl 2 rfl) ?_
  refine lv_ldc (v := 200000) hx hb hown (e1464 hE) dX10_layLengths_140 ?_
  refine x_mmin (v := x49) hx hb (by rw [hml]; exact hl.1.symm) hown (e1465 hE) (e362 hE) (e9 hE) (e363 hE) (Nat.le_of_ble_eq_true rfl) (Nat.le_of_ble_eq_true rfl) (Nat.le_of_ble_eq_true rfl) (Nat.le_of_ble_eq_true rfl) (if_neg (i_nlt h50)) dX10_layLengths_142 ?_
  refine x_iast (ws' := [(q45, .inl (g.2 0, 8, .inl f43)), (q42, .inl (g.2 0, 8, .inl (upd f43 1 x49))), (q39, .inl (g.2 0, 497, .inl f40)), (q1, .inr (12, [.ref q39, w3, w4, w5, w6, w7, w8, .ref q42, .ref q45, w11, w12, w13, w14, w15, w16, w17, w18, w19, w20, w21, w22, w23, w24, w25, w26, w27, w28, w29, w30, w31, w32, w33, w34, w35, w36, w37, w38]))]) hx hb hE hP hD hS 1 rfl 1 (x_in (by decide)) (by decide) dX10_layLengths_145 rfl (fun H locs hP hD hS => ?_)
  refine lv_aload_n hx hb dX10_layLengths_146 rfl (lv_at hl 5 rfl) ?_
  refine gf_RX10_25 hx hb hown hE hP 3 rfl rfl dX10_layLengths_147 ?_
  refine lv_iload_n hx hb dX10_layLengths_150 rfl (lv_at hl 4 rfl) ?_
  refine lv_iload_n hx hb dX10_layLengths_151 rfl (lv_at hl 1 rfl) ?_
  refine lv_ldc (v := 200000) hx hb hown (e1464 hE) dX10_layLengths_152 ?_
  refine x_mmin (v := 1) hx hb (by rw [hml]; exact hl.1.symm) hown (e1465 hE) (e362 hE) (e9 hE) (e363 hE) (Nat.le_of_ble_eq_true rfl) (Nat.le_of_ble_eq_true rfl) (Nat.le_of_ble_eq_true rfl) (Nat.le_of_ble_eq_true rfl) (by decide) dX10_layLengths_154 ?_
  refine x_iast (ws' := [(q45, .inl (g.2 0, 8, .inl (upd f43 1 1))), (q42, .inl (g.2 0, 8, .inl (upd f43 1 x49))), (q39, .inl (g.2 0, 497, .inl f40)), (q1, .inr (12, [.ref q39, w3, w4, w5, w6, w7, w8, .ref q42, .ref q45, w11, w12, w13, w14, w15, w16, w17, w18, w19, w20, w21, w22, w23, w24, w25, w26, w27, w28, w29, w30, w31, w32, w33, w34, w35, w36, w37, w38]))]) hx hb hE hP hD hS 0 rfl 1 (x_in (by decide)) (by decide) dX10_layLengths_157 rfl (fun H locs hP hD hS => ?_)
  refine lv_iinc (v := 2) (lv' := [(1, .int 2), (4, .int 1), (3, .int 1), (2, .int x49), (5, .int 0), (0, .ref q1)]) hx hb dX10_layLengths_158 hl (k := 4) rfl (by decide) (by decide) rfl (fun ls hl => ?_)
  refine lv_goto (tgt := 2) hx hb dX10_layLengths_161 (by decide) ?_
  refine lv_iload_n hx hb dX10_layLengths_2 rfl (lv_at hl 0 rfl) ?_
  refine lv_bipush (v := 8) hx hb dX10_layLengths_3 (by decide) ?_
  refine lv_icmp_ge (tgt := 164) hx hb dX10_layLengths_5 (by decide) (fun h => absurd h (by decide)) (fun _ => ?_)
  refine lv_iconst (v := 0) hx hb dX10_layLengths_8 (by decide) ?_
  refine lv_istore_n (lv' := [(2, .int 0), (1, .int 2), (4, .int 1), (3, .int 1), (5, .int 0), (0, .ref q1)]) hx hb dX10_layLengths_9 rfl hl (by decide) rfl (fun ls hl => ?_)
  refine lv_iconst (v := 0) hx hb dX10_layLengths_10 (by decide) ?_
  refine lv_istore_n (lv' := [(3, .int 0), (2, .int 0), (1, .int 2), (4, .int 1), (5, .int 0), (0, .ref q1)]) hx hb dX10_layLengths_11 rfl hl (by decide) rfl (fun ls hl => ?_)
  refine lv_iconst (v := 0) hx hb dX10_layLengths_12 (by decide) ?_
  refine lv_istore (lv' := [(4, .int 0), (3, .int 0), (2, .int 0), (1, .int 2), (5, .int 0), (0, .ref q1)]) hx hb dX10_layLengths_13 hl (by decide) rfl (fun ls hl => ?_)
  refine lv_iload hx hb dX10_layLengths_15 (lv_at hl 0 rfl) ?_
  refine lv_aload_n hx hb dX10_layLengths_17 rfl (lv_at hl 5 rfl) ?_
  refine lv_iload_n hx hb dX10_layLengths_18 rfl (lv_at hl 3 rfl) ?_
  refine g_i (wr := [(q45, .inl (g.2 0, 8, .inl (upd f43 1 1))), (q42, .inl (g.2 0, 8, .inl (upd f43 1 x49)))]) (rV (rest := [.int 0]) hx hb hml hown hE hP hD 3 rfl rfl (c206_X10_many l g q1 q39 w3 w4 w5 w6 w7 w8 (.ref q42) (.ref q45) w11 w12 w13 w14 w15 w16 w17 w18 w19 w20 w21 w22 w23 w24 w25 w26 w27 w28 w29 w30 w31 w32 w33 w34 w35 w36 w37 w38 f40 (hf51) H.size) (kV_X10_many hE (e1456 hE) rfl rfl ⟨(Nat.le_of_ble_eq_true rfl), (Nat.le_of_ble_eq_true rfl)⟩) [2, 3] rfl (by decide) rfl hl.1 rfl (lv_room (Nat.le_of_ble_eq_true rfl)) dX10_layLengths_19 ⟨(Nat.le_of_ble_eq_true rfl), (Nat.le_of_ble_eq_true rfl)⟩) hP hD hS hA [2, 3] [0, 1] rfl rfl (by decide) (by decide) (fun u7 H locs hP hD hS => ?_)
  have hP : va_P g.1 vwCl [(q45, .inl (g.2 0, 8, .inl (upd f43 1 1))), (q42, .inl (g.2 0, 8, .inl (upd f43 1 x49))), (q39, .inl (g.2 0, 497, .inl f40)), (q1, .inr (12, [.ref q39, w3, w4, w5, w6, w7, w8, .ref q42, .ref q45, w11, w12, w13, w14, w15, w16, w17, w18, w19, w20, w21, w22, w23, w24, w25, w26, w27, w28, w29, w30, w31, w32, w33, w34, w35, w36, w37, w38]))] H := hP
  have hD : va_D A [(q45, .inl (g.2 0, 8, .inl (upd f43 1 1))), (q42, .inl (g.2 0, 8, .inl (upd f43 1 x49))), (q39, .inl (g.2 0, 497, .inl f40)), (q1, .inr (12, [.ref q39, w3, w4, w5, w6, w7, w8, .ref q42, .ref q45, w11, w12, w13, w14, w15, w16, w17, w18, w19, w20, w21, w22, w23, w24, w25, w26, w27, w28, w29, w30, w31, w32, w33, w34, w35, w36, w37, w38]))] := hD
  refine lv_icmp_ge (tgt := 134) hx hb dX10_layLengths_22 (by decide) (fun _ => ?_) (fun h => absurd (by decide) h)
  refine lv_aload_n hx hb dX10_layLengths_134 rfl (lv_at hl 5 rfl) ?_
  refine gf_RX10_22 hx hb hown hE hP 3 rfl rfl dX10_layLengths_135 ?_
  refine lv_iload_n hx hb dX10_layLengths_138 rfl (lv_at hl 3 rfl) ?_
  refine lv_iload_n hx hb dX10_layLengths_139 rfl (lv_at hl 2 rfl) ?_
  refine lv_ldc (v := 200000) hx hb hown (e1464 hE) dX10_layLengths_140 ?_
  refine x_mmin (v := 0) hx hb (by rw [hml]; exact hl.1.symm) hown (e1465 hE) (e362 hE) (e9 hE) (e363 hE) (Nat.le_of_ble_eq_true rfl) (Nat.le_of_ble_eq_true rfl) (Nat.le_of_ble_eq_true rfl) (Nat.le_of_ble_eq_true rfl) (by decide) dX10_layLengths_142 ?_
  refine x_iast_same hx hb hE hP hD hS 1 rfl 2 (x_in (by decide)) (by decide) ((pk_un (by decide)).trans hf52) dX10_layLengths_145 (fun H locs hP hD hS => ?_)
  refine lv_aload_n hx hb dX10_layLengths_146 rfl (lv_at hl 5 rfl) ?_
  refine gf_RX10_25 hx hb hown hE hP 3 rfl rfl dX10_layLengths_147 ?_
  refine lv_iload_n hx hb dX10_layLengths_150 rfl (lv_at hl 3 rfl) ?_
  refine lv_iload_n hx hb dX10_layLengths_151 rfl (lv_at hl 1 rfl) ?_
  refine lv_ldc (v := 200000) hx hb hown (e1464 hE) dX10_layLengths_152 ?_
  refine x_mmin (v := 0) hx hb (by rw [hml]; exact hl.1.symm) hown (e1465 hE) (e362 hE) (e9 hE) (e363 hE) (Nat.le_of_ble_eq_true rfl) (Nat.le_of_ble_eq_true rfl) (Nat.le_of_ble_eq_true rfl) (Nat.le_of_ble_eq_true rfl) (by decide) dX10_layLengths_154 ?_
  refine x_iast_same hx hb hE hP hD hS 0 rfl 2 (x_in (by decide)) (by decide) ((pk_un (by decide)).trans hf52) dX10_layLengths_157 (fun H locs hP hD hS => ?_)
  refine lv_iinc (v := 3) (lv' := [(1, .int 3), (4, .int 0), (3, .int 0), (2, .int 0), (5, .int 0), (0, .ref q1)]) hx hb dX10_layLengths_158 hl (k := 3) rfl (by decide) (by decide) rfl (fun ls hl => ?_)
  refine lv_goto (tgt := 2) hx hb dX10_layLengths_161 (by decide) ?_
  refine lv_iload_n hx hb dX10_layLengths_2 rfl (lv_at hl 0 rfl) ?_
  refine lv_bipush (v := 8) hx hb dX10_layLengths_3 (by decide) ?_
  refine lv_icmp_ge (tgt := 164) hx hb dX10_layLengths_5 (by decide) (fun h => absurd h (by decide)) (fun _ => ?_)
  refine lv_iconst (v := 0) hx hb dX10_layLengths_8 (by decide) ?_
  refine lv_istore_n (lv' := [(2, .int 0), (1, .int 3), (4, .int 0), (3, .int 0), (5, .int 0), (0, .ref q1)]) hx hb dX10_layLengths_9 rfl hl (by decide) rfl (fun ls hl => ?_)
  refine lv_iconst (v := 0) hx hb dX10_layLengths_10 (by decide) ?_
  refine lv_istore_n (lv' := [(3, .int 0), (2, .int 0), (1, .int 3), (4, .int 0), (5, .int 0), (0, .ref q1)]) hx hb dX10_layLengths_11 rfl hl (by decide) rfl (fun ls hl => ?_)
  refine lv_iconst (v := 0) hx hb dX10_layLengths_12 (by decide) ?_
  refine lv_istore (lv' := [(4, .int 0), (3, .int 0), (2, .int 0), (1, .int 3), (5, .int 0), (0, .ref q1)]) hx hb dX10_layLengths_13 hl (by decide) rfl (fun ls hl => ?_)
  refine lv_iload hx hb dX10_layLengths_15 (lv_at hl 0 rfl) ?_
  refine lv_aload_n hx hb dX10_layLengths_17 rfl (lv_at hl 5 rfl) ?_
  refine lv_iload_n hx hb dX10_layLengths_18 rfl (lv_at hl 3 rfl) ?_
  refine g_i (wr := [(q45, .inl (g.2 0, 8, .inl (upd f43 1 1))), (q42, .inl (g.2 0, 8, .inl (upd f43 1 x49)))]) (rV (rest := [.int 0]) hx hb hml hown hE hP hD 3 rfl rfl (c208_X10_many l g q1 q39 w3 w4 w5 w6 w7 w8 (.ref q42) (.ref q45) w11 w12 w13 w14 w15 w16 w17 w18 w19 w20 w21 w22 w23 w24 w25 w26 w27 w28 w29 w30 w31 w32 w33 w34 w35 w36 w37 w38 f40 (hf53) H.size) (kV_X10_many hE (e1456 hE) rfl rfl ⟨(Nat.le_of_ble_eq_true rfl), (Nat.le_of_ble_eq_true rfl)⟩) [2, 3] rfl (by decide) rfl hl.1 rfl (lv_room (Nat.le_of_ble_eq_true rfl)) dX10_layLengths_19 ⟨(Nat.le_of_ble_eq_true rfl), (Nat.le_of_ble_eq_true rfl)⟩) hP hD hS hA [2, 3] [0, 1] rfl rfl (by decide) (by decide) (fun u8 H locs hP hD hS => ?_)
  have hP : va_P g.1 vwCl [(q45, .inl (g.2 0, 8, .inl (upd f43 1 1))), (q42, .inl (g.2 0, 8, .inl (upd f43 1 x49))), (q39, .inl (g.2 0, 497, .inl f40)), (q1, .inr (12, [.ref q39, w3, w4, w5, w6, w7, w8, .ref q42, .ref q45, w11, w12, w13, w14, w15, w16, w17, w18, w19, w20, w21, w22, w23, w24, w25, w26, w27, w28, w29, w30, w31, w32, w33, w34, w35, w36, w37, w38]))] H := hP
  have hD : va_D A [(q45, .inl (g.2 0, 8, .inl (upd f43 1 1))), (q42, .inl (g.2 0, 8, .inl (upd f43 1 x49))), (q39, .inl (g.2 0, 497, .inl f40)), (q1, .inr (12, [.ref q39, w3, w4, w5, w6, w7, w8, .ref q42, .ref q45, w11, w12, w13, w14, w15, w16, w17, w18, w19, w20, w21, w22, w23, w24, w25, w26, w27, w28, w29, w30, w31, w32, w33, w34, w35, w36, w37, w38]))] := hD
  refine lv_icmp_ge (tgt := 134) hx hb dX10_layLengths_22 (by decide) (fun _ => ?_) (fun h => absurd (by decide) h)
  refine lv_aload_n hx hb dX10_layLengths_134 rfl (lv_at hl 5 rfl) ?_
  refine gf_RX10_22 hx hb hown hE hP 3 rfl rfl dX10_layLengths_135 ?_
  refine lv_iload_n hx hb dX10_layLengths_138 rfl (lv_at hl 3 rfl) ?_
  refine lv_iload_n hx hb dX10_layLengths_139 rfl (lv_at hl 2 rfl) ?_
  refine lv_ldc (v := 200000) hx hb hown (e1464 hE) dX10_layLengths_140 ?_
  refine x_mmin (v := 0) hx hb (by rw [hml]; exact hl.1.symm) hown (e1465 hE) (e362 hE) (e9 hE) (e363 hE) (Nat.le_of_ble_eq_true rfl) (Nat.le_of_ble_eq_true rfl) (Nat.le_of_ble_eq_true rfl) (Nat.le_of_ble_eq_true rfl) (by decide) dX10_layLengths_142 ?_
  refine x_iast_same hx hb hE hP hD hS 1 rfl 3 (x_in (by decide)) (by decide) ((pk_un (by decide)).trans hf54) dX10_layLengths_145 (fun H locs hP hD hS => ?_)
  refine lv_aload_n hx hb dX10_layLengths_146 rfl (lv_at hl 5 rfl) ?_
  refine gf_RX10_25 hx hb hown hE hP 3 rfl rfl dX10_layLengths_147 ?_
  refine lv_iload_n hx hb dX10_layLengths_150 rfl (lv_at hl 3 rfl) ?_
  refine lv_iload_n hx hb dX10_layLengths_151 rfl (lv_at hl 1 rfl) ?_
  refine lv_ldc (v := 200000) hx hb hown (e1464 hE) dX10_layLengths_152 ?_
  refine x_mmin (v := 0) hx hb (by rw [hml]; exact hl.1.symm) hown (e1465 hE) (e362 hE) (e9 hE) (e363 hE) (Nat.le_of_ble_eq_true rfl) (Nat.le_of_ble_eq_true rfl) (Nat.le_of_ble_eq_true rfl) (Nat.le_of_ble_eq_true rfl) (by decide) dX10_layLengths_154 ?_
  refine x_iast_same hx hb hE hP hD hS 0 rfl 3 (x_in (by decide)) (by decide) ((pk_un (by decide)).trans hf54) dX10_layLengths_157 (fun H locs hP hD hS => ?_)
  refine lv_iinc (v := 4) (lv' := [(1, .int 4), (4, .int 0), (3, .int 0), (2, .int 0), (5, .int 0), (0, .ref q1)]) hx hb dX10_layLengths_158 hl (k := 3) rfl (by decide) (by decide) rfl (fun ls hl => ?_)
  refine lv_goto (tgt := 2) hx hb dX10_layLengths_161 (by decide) ?_
  refine lv_iload_n hx hb dX10_layLengths_2 rfl (lv_at hl 0 rfl) ?_
  refine lv_bipush (v := 8) hx hb dX10_layLengths_3 (by decide) ?_
  refine lv_icmp_ge (tgt := 164) hx hb dX10_layLengths_5 (by decide) (fun h => absurd h (by decide)) (fun _ => ?_)
  refine lv_iconst (v := 0) hx hb dX10_layLengths_8 (by decide) ?_
  refine lv_istore_n (lv' := [(2, .int 0), (1, .int 4), (4, .int 0), (3, .int 0), (5, .int 0), (0, .ref q1)]) hx hb dX10_layLengths_9 rfl hl (by decide) rfl (fun ls hl => ?_)
  refine lv_iconst (v := 0) hx hb dX10_layLengths_10 (by decide) ?_
  refine lv_istore_n (lv' := [(3, .int 0), (2, .int 0), (1, .int 4), (4, .int 0), (5, .int 0), (0, .ref q1)]) hx hb dX10_layLengths_11 rfl hl (by decide) rfl (fun ls hl => ?_)
  refine lv_iconst (v := 0) hx hb dX10_layLengths_12 (by decide) ?_
  refine lv_istore (lv' := [(4, .int 0), (3, .int 0), (2, .int 0), (1, .int 4), (5, .int 0), (0, .ref q1)]) hx hb dX10_layLengths_13 hl (by decide) rfl (fun ls hl => ?_)
  refine lv_iload hx hb dX10_layLengths_15 (lv_at hl 0 rfl) ?_
  refine lv_aload_n hx hb dX10_layLengths_17 rfl (lv_at hl 5 rfl) ?_
  refine lv_iload_n hx hb dX10_layLengths_18 rfl (lv_at hl 3 rfl) ?_
  refine g_i (wr := [(q45, .inl (g.2 0, 8, .inl (upd f43 1 1))), (q42, .inl (g.2 0, 8, .inl (upd f43 1 x49)))]) (rV (rest := [.int 0]) hx hb hml hown hE hP hD 3 rfl rfl (c210_X10_many l g q1 q39 w3 w4 w5 w6 w7 w8 (.ref q42) (.ref q45) w11 w12 w13 w14 w15 w16 w17 w18 w19 w20 w21 w22 w23 w24 w25 w26 w27 w28 w29 w30 w31 w32 w33 w34 w35 w36 w37 w38 f40 (hf55) H.size) (kV_X10_many hE (e1456 hE) rfl rfl ⟨(Nat.le_of_ble_eq_true rfl), (Nat.le_of_ble_eq_true rfl)⟩) [2, 3] rfl (by decide) rfl hl.1 rfl (lv_room (Nat.le_of_ble_eq_true rfl)) dX10_layLengths_19 ⟨(Nat.le_of_ble_eq_true rfl), (Nat.le_of_ble_eq_true rfl)⟩) hP hD hS hA [2, 3] [0, 1] rfl rfl (by decide) (by decide) (fun u9 H locs hP hD hS => ?_)
  have hP : va_P g.1 vwCl [(q45, .inl (g.2 0, 8, .inl (upd f43 1 1))), (q42, .inl (g.2 0, 8, .inl (upd f43 1 x49))), (q39, .inl (g.2 0, 497, .inl f40)), (q1, .inr (12, [.ref q39, w3, w4, w5, w6, w7, w8, .ref q42, .ref q45, w11, w12, w13, w14, w15, w16, w17, w18, w19, w20, w21, w22, w23, w24, w25, w26, w27, w28, w29, w30, w31, w32, w33, w34, w35, w36, w37, w38]))] H := hP
  have hD : va_D A [(q45, .inl (g.2 0, 8, .inl (upd f43 1 1))), (q42, .inl (g.2 0, 8, .inl (upd f43 1 x49))), (q39, .inl (g.2 0, 497, .inl f40)), (q1, .inr (12, [.ref q39, w3, w4, w5, w6, w7, w8, .ref q42, .ref q45, w11, w12, w13, w14, w15, w16, w17, w18, w19, w20, w21, w22, w23, w24, w25, w26, w27, w28, w29, w30, w31, w32, w33, w34, w35, w36, w37, w38]))] := hD
  refine lv_icmp_ge (tgt := 134) hx hb dX10_layLengths_22 (by decide) (fun _ => ?_) (fun h => absurd (by decide) h)
  refine lv_aload_n hx hb dX10_layLengths_134 rfl (lv_at hl 5 rfl) ?_
  refine gf_RX10_22 hx hb hown hE hP 3 rfl rfl dX10_layLengths_135 ?_
  refine lv_iload_n hx hb dX10_layLengths_138 rfl (lv_at hl 3 rfl) ?_
  refine lv_iload_n hx hb dX10_layLengths_139 rfl (lv_at hl 2 rfl) ?_
  refine lv_ldc (v := 200000) hx hb hown (e1464 hE) dX10_layLengths_140 ?_
  refine x_mmin (v := 0) hx hb (by rw [hml]; exact hl.1.symm) hown (e1465 hE) (e362 hE) (e9 hE) (e363 hE) (Nat.le_of_ble_eq_true rfl) (Nat.le_of_ble_eq_true rfl) (Nat.le_of_ble_eq_true rfl) (Nat.le_of_ble_eq_true rfl) (by decide) dX10_layLengths_142 ?_
  refine x_iast_same hx hb hE hP hD hS 1 rfl 4 (x_in (by decide)) (by decide) ((pk_un (by decide)).trans hf56) dX10_layLengths_145 (fun H locs hP hD hS => ?_)
  refine lv_aload_n hx hb dX10_layLengths_146 rfl (lv_at hl 5 rfl) ?_
  refine gf_RX10_25 hx hb hown hE hP 3 rfl rfl dX10_layLengths_147 ?_
  refine lv_iload_n hx hb dX10_layLengths_150 rfl (lv_at hl 3 rfl) ?_
  refine lv_iload_n hx hb dX10_layLengths_151 rfl (lv_at hl 1 rfl) ?_
  refine lv_ldc (v := 200000) hx hb hown (e1464 hE) dX10_layLengths_152 ?_
  refine x_mmin (v := 0) hx hb (by rw [hml]; exact hl.1.symm) hown (e1465 hE) (e362 hE) (e9 hE) (e363 hE) (Nat.le_of_ble_eq_true rfl) (Nat.le_of_ble_eq_true rfl) (Nat.le_of_ble_eq_true rfl) (Nat.le_of_ble_eq_true rfl) (by decide) dX10_layLengths_154 ?_
  refine x_iast_same hx hb hE hP hD hS 0 rfl 4 (x_in (by decide)) (by decide) ((pk_un (by decide)).trans hf56) dX10_layLengths_157 (fun H locs hP hD hS => ?_)
  refine lv_iinc (v := 5) (lv' := [(1, .int 5), (4, .int 0), (3, .int 0), (2, .int 0), (5, .int 0), (0, .ref q1)]) hx hb dX10_layLengths_158 hl (k := 3) rfl (by decide) (by decide) rfl (fun ls hl => ?_)
  refine lv_goto (tgt := 2) hx hb dX10_layLengths_161 (by decide) ?_
  refine lv_iload_n hx hb dX10_layLengths_2 rfl (lv_at hl 0 rfl) ?_
  refine lv_bipush (v := 8) hx hb dX10_layLengths_3 (by decide) ?_
  refine lv_icmp_ge (tgt := 164) hx hb dX10_layLengths_5 (by decide) (fun h => absurd h (by decide)) (fun _ => ?_)
  refine lv_iconst (v := 0) hx hb dX10_layLengths_8 (by decide) ?_
  refine lv_istore_n (lv' := [(2, .int 0), (1, .int 5), (4, .int 0), (3, .int 0), (5, .int 0), (0, .ref q1)]) hx hb dX10_layLengths_9 rfl hl (by decide) rfl (fun ls hl => ?_)
  refine lv_iconst (v := 0) hx hb dX10_layLengths_10 (by decide) ?_
  refine lv_istore_n (lv' := [(3, .int 0), (2, .int 0), (1, .int 5), (4, .int 0), (5, .int 0), (0, .ref q1)]) hx hb dX10_layLengths_11 rfl hl (by decide) rfl (fun ls hl => ?_)
  refine lv_iconst (v := 0) hx hb dX10_layLengths_12 (by decide) ?_
  refine lv_istore (lv' := [(4, .int 0), (3, .int 0), (2, .int 0), (1, .int 5), (5, .int 0), (0, .ref q1)]) hx hb dX10_layLengths_13 hl (by decide) rfl (fun ls hl => ?_)
  refine lv_iload hx hb dX10_layLengths_15 (lv_at hl 0 rfl) ?_
  refine lv_aload_n hx hb dX10_layLengths_17 rfl (lv_at hl 5 rfl) ?_
  refine lv_iload_n hx hb dX10_layLengths_18 rfl (lv_at hl 3 rfl) ?_
  refine g_i (wr := [(q45, .inl (g.2 0, 8, .inl (upd f43 1 1))), (q42, .inl (g.2 0, 8, .inl (upd f43 1 x49)))]) (rV (rest := [.int 0]) hx hb hml hown hE hP hD 3 rfl rfl (c212_X10_many l g q1 q39 w3 w4 w5 w6 w7 w8 (.ref q42) (.ref q45) w11 w12 w13 w14 w15 w16 w17 w18 w19 w20 w21 w22 w23 w24 w25 w26 w27 w28 w29 w30 w31 w32 w33 w34 w35 w36 w37 w38 f40 (hf57) H.size) (kV_X10_many hE (e1456 hE) rfl rfl ⟨(Nat.le_of_ble_eq_true rfl), (Nat.le_of_ble_eq_true rfl)⟩) [2, 3] rfl (by decide) rfl hl.1 rfl (lv_room (Nat.le_of_ble_eq_true rfl)) dX10_layLengths_19 ⟨(Nat.le_of_ble_eq_true rfl), (Nat.le_of_ble_eq_true rfl)⟩) hP hD hS hA [2, 3] [0, 1] rfl rfl (by decide) (by decide) (fun u10 H locs hP hD hS => ?_)
  have hP : va_P g.1 vwCl [(q45, .inl (g.2 0, 8, .inl (upd f43 1 1))), (q42, .inl (g.2 0, 8, .inl (upd f43 1 x49))), (q39, .inl (g.2 0, 497, .inl f40)), (q1, .inr (12, [.ref q39, w3, w4, w5, w6, w7, w8, .ref q42, .ref q45, w11, w12, w13, w14, w15, w16, w17, w18, w19, w20, w21, w22, w23, w24, w25, w26, w27, w28, w29, w30, w31, w32, w33, w34, w35, w36, w37, w38]))] H := hP
  have hD : va_D A [(q45, .inl (g.2 0, 8, .inl (upd f43 1 1))), (q42, .inl (g.2 0, 8, .inl (upd f43 1 x49))), (q39, .inl (g.2 0, 497, .inl f40)), (q1, .inr (12, [.ref q39, w3, w4, w5, w6, w7, w8, .ref q42, .ref q45, w11, w12, w13, w14, w15, w16, w17, w18, w19, w20, w21, w22, w23, w24, w25, w26, w27, w28, w29, w30, w31, w32, w33, w34, w35, w36, w37, w38]))] := hD
  refine lv_icmp_ge (tgt := 134) hx hb dX10_layLengths_22 (by decide) (fun _ => ?_) (fun h => absurd (by decide) h)
  refine lv_aload_n hx hb dX10_layLengths_134 rfl (lv_at hl 5 rfl) ?_
  refine gf_RX10_22 hx hb hown hE hP 3 rfl rfl dX10_layLengths_135 ?_
  refine lv_iload_n hx hb dX10_layLengths_138 rfl (lv_at hl 3 rfl) ?_
  refine lv_iload_n hx hb dX10_layLengths_139 rfl (lv_at hl 2 rfl) ?_
  refine lv_ldc (v := 200000) hx hb hown (e1464 hE) dX10_layLengths_140 ?_
  refine x_mmin (v := 0) hx hb (by rw [hml]; exact hl.1.symm) hown (e1465 hE) (e362 hE) (e9 hE) (e363 hE) (Nat.le_of_ble_eq_true rfl) (Nat.le_of_ble_eq_true rfl) (Nat.le_of_ble_eq_true rfl) (Nat.le_of_ble_eq_true rfl) (by decide) dX10_layLengths_142 ?_
  refine x_iast_same hx hb hE hP hD hS 1 rfl 5 (x_in (by decide)) (by decide) ((pk_un (by decide)).trans hf58) dX10_layLengths_145 (fun H locs hP hD hS => ?_)
  refine lv_aload_n hx hb dX10_layLengths_146 rfl (lv_at hl 5 rfl) ?_
  refine gf_RX10_25 hx hb hown hE hP 3 rfl rfl dX10_layLengths_147 ?_
  refine lv_iload_n hx hb dX10_layLengths_150 rfl (lv_at hl 3 rfl) ?_
  refine lv_iload_n hx hb dX10_layLengths_151 rfl (lv_at hl 1 rfl) ?_
  refine lv_ldc (v := 200000) hx hb hown (e1464 hE) dX10_layLengths_152 ?_
  refine x_mmin (v := 0) hx hb (by rw [hml]; exact hl.1.symm) hown (e1465 hE) (e362 hE) (e9 hE) (e363 hE) (Nat.le_of_ble_eq_true rfl) (Nat.le_of_ble_eq_true rfl) (Nat.le_of_ble_eq_true rfl) (Nat.le_of_ble_eq_true rfl) (by decide) dX10_layLengths_154 ?_
  refine x_iast_same hx hb hE hP hD hS 0 rfl 5 (x_in (by decide)) (by decide) ((pk_un (by decide)).trans hf58) dX10_layLengths_157 (fun H locs hP hD hS => ?_)
  refine lv_iinc (v := 6) (lv' := [(1, .int 6), (4, .int 0), (3, .int 0), (2, .int 0), (5, .int 0), (0, .ref q1)]) hx hb dX10_layLengths_158 hl (k := 3) rfl (by decide) (by decide) rfl (fun ls hl => ?_)
  refine lv_goto (tgt := 2) hx hb dX10_layLengths_161 (by decide) ?_
  refine lv_iload_n hx hb dX10_layLengths_2 rfl (lv_at hl 0 rfl) ?_
  refine lv_bipush (v := 8) hx hb dX10_layLengths_3 (by decide) ?_
  refine lv_icmp_ge (tgt := 164) hx hb dX10_layLengths_5 (by decide) (fun h => absurd h (by decide)) (fun _ => ?_)
  refine lv_iconst (v := 0) hx hb dX10_layLengths_8 (by decide) ?_
  refine lv_istore_n (lv' := [(2, .int 0), (1, .int 6), (4, .int 0), (3, .int 0), (5, .int 0), (0, .ref q1)]) hx hb dX10_layLengths_9 rfl hl (by decide) rfl (fun ls hl => ?_)
  refine lv_iconst (v := 0) hx hb dX10_layLengths_10 (by decide) ?_
  refine lv_istore_n (lv' := [(3, .int 0), (2, .int 0), (1, .int 6), (4, .int 0), (5, .int 0), (0, .ref q1)]) hx hb dX10_layLengths_11 rfl hl (by decide) rfl (fun ls hl => ?_)
  refine lv_iconst (v := 0) hx hb dX10_layLengths_12 (by decide) ?_
  refine lv_istore (lv' := [(4, .int 0), (3, .int 0), (2, .int 0), (1, .int 6), (5, .int 0), (0, .ref q1)]) hx hb dX10_layLengths_13 hl (by decide) rfl (fun ls hl => ?_)
  refine lv_iload hx hb dX10_layLengths_15 (lv_at hl 0 rfl) ?_
  refine lv_aload_n hx hb dX10_layLengths_17 rfl (lv_at hl 5 rfl) ?_
  refine lv_iload_n hx hb dX10_layLengths_18 rfl (lv_at hl 3 rfl) ?_
  refine g_i (wr := [(q45, .inl (g.2 0, 8, .inl (upd f43 1 1))), (q42, .inl (g.2 0, 8, .inl (upd f43 1 x49)))]) (rV (rest := [.int 0]) hx hb hml hown hE hP hD 3 rfl rfl (c214_X10_many l g q1 q39 w3 w4 w5 w6 w7 w8 (.ref q42) (.ref q45) w11 w12 w13 w14 w15 w16 w17 w18 w19 w20 w21 w22 w23 w24 w25 w26 w27 w28 w29 w30 w31 w32 w33 w34 w35 w36 w37 w38 f40 (hf59) H.size) (kV_X10_many hE (e1456 hE) rfl rfl ⟨(Nat.le_of_ble_eq_true rfl), (Nat.le_of_ble_eq_true rfl)⟩) [2, 3] rfl (by decide) rfl hl.1 rfl (lv_room (Nat.le_of_ble_eq_true rfl)) dX10_layLengths_19 ⟨(Nat.le_of_ble_eq_true rfl), (Nat.le_of_ble_eq_true rfl)⟩) hP hD hS hA [2, 3] [0, 1] rfl rfl (by decide) (by decide) (fun u11 H locs hP hD hS => ?_)
  have hP : va_P g.1 vwCl [(q45, .inl (g.2 0, 8, .inl (upd f43 1 1))), (q42, .inl (g.2 0, 8, .inl (upd f43 1 x49))), (q39, .inl (g.2 0, 497, .inl f40)), (q1, .inr (12, [.ref q39, w3, w4, w5, w6, w7, w8, .ref q42, .ref q45, w11, w12, w13, w14, w15, w16, w17, w18, w19, w20, w21, w22, w23, w24, w25, w26, w27, w28, w29, w30, w31, w32, w33, w34, w35, w36, w37, w38]))] H := hP
  have hD : va_D A [(q45, .inl (g.2 0, 8, .inl (upd f43 1 1))), (q42, .inl (g.2 0, 8, .inl (upd f43 1 x49))), (q39, .inl (g.2 0, 497, .inl f40)), (q1, .inr (12, [.ref q39, w3, w4, w5, w6, w7, w8, .ref q42, .ref q45, w11, w12, w13, w14, w15, w16, w17, w18, w19, w20, w21, w22, w23, w24, w25, w26, w27, w28, w29, w30, w31, w32, w33, w34, w35, w36, w37, w38]))] := hD
  refine lv_icmp_ge (tgt := 134) hx hb dX10_layLengths_22 (by decide) (fun _ => ?_) (fun h => absurd (by decide) h)
  refine lv_aload_n hx hb dX10_layLengths_134 rfl (lv_at hl 5 rfl) ?_
  refine gf_RX10_22 hx hb hown hE hP 3 rfl rfl dX10_layLengths_135 ?_
  refine lv_iload_n hx hb dX10_layLengths_138 rfl (lv_at hl 3 rfl) ?_
  refine lv_iload_n hx hb dX10_layLengths_139 rfl (lv_at hl 2 rfl) ?_
  refine lv_ldc (v := 200000) hx hb hown (e1464 hE) dX10_layLengths_140 ?_
  refine x_mmin (v := 0) hx hb (by rw [hml]; exact hl.1.symm) hown (e1465 hE) (e362 hE) (e9 hE) (e363 hE) (Nat.le_of_ble_eq_true rfl) (Nat.le_of_ble_eq_true rfl) (Nat.le_of_ble_eq_true rfl) (Nat.le_of_ble_eq_true rfl) (by decide) dX10_layLengths_142 ?_
  refine x_iast_same hx hb hE hP hD hS 1 rfl 6 (x_in (by decide)) (by decide) ((pk_un (by decide)).trans hf60) dX10_layLengths_145 (fun H locs hP hD hS => ?_)
  refine lv_aload_n hx hb dX10_layLengths_146 rfl (lv_at hl 5 rfl) ?_
  refine gf_RX10_25 hx hb hown hE hP 3 rfl rfl dX10_layLengths_147 ?_
  refine lv_iload_n hx hb dX10_layLengths_150 rfl (lv_at hl 3 rfl) ?_
  refine lv_iload_n hx hb dX10_layLengths_151 rfl (lv_at hl 1 rfl) ?_
  refine lv_ldc (v := 200000) hx hb hown (e1464 hE) dX10_layLengths_152 ?_
  refine x_mmin (v := 0) hx hb (by rw [hml]; exact hl.1.symm) hown (e1465 hE) (e362 hE) (e9 hE) (e363 hE) (Nat.le_of_ble_eq_true rfl) (Nat.le_of_ble_eq_true rfl) (Nat.le_of_ble_eq_true rfl) (Nat.le_of_ble_eq_true rfl) (by decide) dX10_layLengths_154 ?_
  refine x_iast_same hx hb hE hP hD hS 0 rfl 6 (x_in (by decide)) (by decide) ((pk_un (by decide)).trans hf60) dX10_layLengths_157 (fun H locs hP hD hS => ?_)
  refine lv_iinc (v := 7) (lv' := [(1, .int 7), (4, .int 0), (3, .int 0), (2, .int 0), (5, .int 0), (0, .ref q1)]) hx hb dX10_layLengths_158 hl (k := 3) rfl (by decide) (by decide) rfl (fun ls hl => ?_)
  refine lv_goto (tgt := 2) hx hb dX10_layLengths_161 (by decide) ?_
  refine lv_iload_n hx hb dX10_layLengths_2 rfl (lv_at hl 0 rfl) ?_
  refine lv_bipush (v := 8) hx hb dX10_layLengths_3 (by decide) ?_
  refine lv_icmp_ge (tgt := 164) hx hb dX10_layLengths_5 (by decide) (fun h => absurd h (by decide)) (fun _ => ?_)
  refine lv_iconst (v := 0) hx hb dX10_layLengths_8 (by decide) ?_
  refine lv_istore_n (lv' := [(2, .int 0), (1, .int 7), (4, .int 0), (3, .int 0), (5, .int 0), (0, .ref q1)]) hx hb dX10_layLengths_9 rfl hl (by decide) rfl (fun ls hl => ?_)
  refine lv_iconst (v := 0) hx hb dX10_layLengths_10 (by decide) ?_
  refine lv_istore_n (lv' := [(3, .int 0), (2, .int 0), (1, .int 7), (4, .int 0), (5, .int 0), (0, .ref q1)]) hx hb dX10_layLengths_11 rfl hl (by decide) rfl (fun ls hl => ?_)
  refine lv_iconst (v := 0) hx hb dX10_layLengths_12 (by decide) ?_
  refine lv_istore (lv' := [(4, .int 0), (3, .int 0), (2, .int 0), (1, .int 7), (5, .int 0), (0, .ref q1)]) hx hb dX10_layLengths_13 hl (by decide) rfl (fun ls hl => ?_)
  refine lv_iload hx hb dX10_layLengths_15 (lv_at hl 0 rfl) ?_
  refine lv_aload_n hx hb dX10_layLengths_17 rfl (lv_at hl 5 rfl) ?_
  refine lv_iload_n hx hb dX10_layLengths_18 rfl (lv_at hl 3 rfl) ?_
  refine g_i (wr := [(q45, .inl (g.2 0, 8, .inl (upd f43 1 1))), (q42, .inl (g.2 0, 8, .inl (upd f43 1 x49)))]) (rV (rest := [.int 0]) hx hb hml hown hE hP hD 3 rfl rfl (c216_X10_many l g q1 q39 w3 w4 w5 w6 w7 w8 (.ref q42) (.ref q45) w11 w12 w13 w14 w15 w16 w17 w18 w19 w20 w21 w22 w23 w24 w25 w26 w27 w28 w29 w30 w31 w32 w33 w34 w35 w36 w37 w38 f40 (hf61) H.size) (kV_X10_many hE (e1456 hE) rfl rfl ⟨(Nat.le_of_ble_eq_true rfl), (Nat.le_of_ble_eq_true rfl)⟩) [2, 3] rfl (by decide) rfl hl.1 rfl (lv_room (Nat.le_of_ble_eq_true rfl)) dX10_layLengths_19 ⟨(Nat.le_of_ble_eq_true rfl), (Nat.le_of_ble_eq_true rfl)⟩) hP hD hS hA [2, 3] [0, 1] rfl rfl (by decide) (by decide) (fun u12 H locs hP hD hS => ?_)
  have hP : va_P g.1 vwCl [(q45, .inl (g.2 0, 8, .inl (upd f43 1 1))), (q42, .inl (g.2 0, 8, .inl (upd f43 1 x49))), (q39, .inl (g.2 0, 497, .inl f40)), (q1, .inr (12, [.ref q39, w3, w4, w5, w6, w7, w8, .ref q42, .ref q45, w11, w12, w13, w14, w15, w16, w17, w18, w19, w20, w21, w22, w23, w24, w25, w26, w27, w28, w29, w30, w31, w32, w33, w34, w35, w36, w37, w38]))] H := hP
  have hD : va_D A [(q45, .inl (g.2 0, 8, .inl (upd f43 1 1))), (q42, .inl (g.2 0, 8, .inl (upd f43 1 x49))), (q39, .inl (g.2 0, 497, .inl f40)), (q1, .inr (12, [.ref q39, w3, w4, w5, w6, w7, w8, .ref q42, .ref q45, w11, w12, w13, w14, w15, w16, w17, w18, w19, w20, w21, w22, w23, w24, w25, w26, w27, w28, w29, w30, w31, w32, w33, w34, w35, w36, w37, w38]))] := hD
  refine lv_icmp_ge (tgt := 134) hx hb dX10_layLengths_22 (by decide) (fun _ => ?_) (fun h => absurd (by decide) h)
  refine lv_aload_n hx hb dX10_layLengths_134 rfl (lv_at hl 5 rfl) ?_
  refine gf_RX10_22 hx hb hown hE hP 3 rfl rfl dX10_layLengths_135 ?_
  refine lv_iload_n hx hb dX10_layLengths_138 rfl (lv_at hl 3 rfl) ?_
  refine lv_iload_n hx hb dX10_layLengths_139 rfl (lv_at hl 2 rfl) ?_
  refine lv_ldc (v := 200000) hx hb hown (e1464 hE) dX10_layLengths_140 ?_
  refine x_mmin (v := 0) hx hb (by rw [hml]; exact hl.1.symm) hown (e1465 hE) (e362 hE) (e9 hE) (e363 hE) (Nat.le_of_ble_eq_true rfl) (Nat.le_of_ble_eq_true rfl) (Nat.le_of_ble_eq_true rfl) (Nat.le_of_ble_eq_true rfl) (by decide) dX10_layLengths_142 ?_
  refine x_iast_same hx hb hE hP hD hS 1 rfl 7 (x_in (by decide)) (by decide) ((pk_un (by decide)).trans hf62) dX10_layLengths_145 (fun H locs hP hD hS => ?_)
  refine lv_aload_n hx hb dX10_layLengths_146 rfl (lv_at hl 5 rfl) ?_
  refine gf_RX10_25 hx hb hown hE hP 3 rfl rfl dX10_layLengths_147 ?_
  refine lv_iload_n hx hb dX10_layLengths_150 rfl (lv_at hl 3 rfl) ?_
  refine lv_iload_n hx hb dX10_layLengths_151 rfl (lv_at hl 1 rfl) ?_
  refine lv_ldc (v := 200000) hx hb hown (e1464 hE) dX10_layLengths_152 ?_
  refine x_mmin (v := 0) hx hb (by rw [hml]; exact hl.1.symm) hown (e1465 hE) (e362 hE) (e9 hE) (e363 hE) (Nat.le_of_ble_eq_true rfl) (Nat.le_of_ble_eq_true rfl) (Nat.le_of_ble_eq_true rfl) (Nat.le_of_ble_eq_true rfl) (by decide) dX10_layLengths_154 ?_
  refine x_iast_same hx hb hE hP hD hS 0 rfl 7 (x_in (by decide)) (by decide) ((pk_un (by decide)).trans hf62) dX10_layLengths_157 (fun H locs hP hD hS => ?_)
  refine lv_iinc (v := 8) (lv' := [(1, .int 8), (4, .int 0), (3, .int 0), (2, .int 0), (5, .int 0), (0, .ref q1)]) hx hb dX10_layLengths_158 hl (k := 3) rfl (by decide) (by decide) rfl (fun ls hl => ?_)
  refine lv_goto (tgt := 2) hx hb dX10_layLengths_161 (by decide) ?_
  refine lv_iload_n hx hb dX10_layLengths_2 rfl (lv_at hl 0 rfl) ?_
  refine lv_bipush (v := 8) hx hb dX10_layLengths_3 (by decide) ?_
  refine lv_icmp_ge (tgt := 164) hx hb dX10_layLengths_5 (by decide) (fun _ => ?_) (fun h => absurd (by decide) h)
  exact x_vret hx hb hr hlocks hP hD hS hAe hsz (Nat.le_of_ble_eq_true rfl) (Nat.le_of_ble_eq_true rfl) (fun _ => 0) [0, 1, 2, 3] (by decide) rfl dX10_layLengths_164

set_option maxHeartbeats 4000000 in
set_option maxRecDepth 100000 in
theorem c252_X10_isTooGreat (l : Launch) (g : gG) (q1 q39 q40 q41 : Nat) (x49 : Int32) (w3 w4 w5 w6 w7 w8 w11 w12 w13 w14 w15 w16 w17 w18 w19 w20 w21 w22 w23 w24 w25 w26 w27 w28 w29 w30 w31 w32 w33 w34 w35 w36 w37 w38 : Value) (f42 : Nat → Int32) (f44 : Nat → Int32) (hf43 : f42 0 = 0) (hf45 : f44 0 = 0) (hf46 : f42 49 = 1) (hf47 : f42 50 = 0) (hf48 : f42 52 = x49) (hf51 : f42 98 = 0) (hf52 : f44 2 = 0) (hf53 : f42 147 = 0) (hf54 : f44 3 = 0) (hf55 : f42 196 = 0) (hf56 : f44 4 = 0) (hf57 : f42 245 = 0) (hf58 : f44 5 = 0) (hf59 : f42 294 = 0) (hf60 : f44 6 = 0) (hf61 : f42 343 = 0) (hf62 : f44 7 = 0) (hf64 : f42 392 = 0) (h50 : x49 ≤ 200000) (h63 : x49 ≤ 20000) (sz : Nat) : Met l yX10_isTooGreat [Cond.code yX10_isTooGreat cX10_isTooGreat 4 (some .boolean)] ({ frames := 3, cells := 0, slots := 0, locals := 68 } : Room) (va_Pc [.ref q1] (PX g sz [(q41, .inl (g.2 0, 8, .inl f44)), (q40, .inl (g.2 0, 8, .inl f44)), (q39, .inl (g.2 0, 497, .inl f42)), (q1, .inr (12, [.ref q39, w3, w4, w5, w6, w7, w8, .ref q40, .ref q41, w11, w12, w13, w14, w15, w16, w17, w18, w19, w20, w21, w22, w23, w24, w25, w26, w27, w28, w29, w30, w31, w32, w33, w34, w35, w36, w37, w38]))])) (QI g [(q41, .inl (g.2 0, 8, .inl f44)), (q40, .inl (g.2 0, 8, .inl f44)), (q39, .inl (g.2 0, 497, .inl f42)), (q1, .inr (12, [.ref q39, w3, w4, w5, w6, w7, w8, .ref q40, .ref q41, w11, w12, w13, w14, w15, w16, w17, w18, w19, w20, w21, w22, w23, w24, w25, w26, w27, w28, w29, w30, w31, w32, w33, w34, w35, w36, w37, w38]))] sz 0 (fun _ => [(q41, .inl (g.2 0, 8, .inl (upd f44 1 1))), (q40, .inl (g.2 0, 8, .inl (upd f44 1 x49))), (q39, .inl (g.2 0, 497, .inl f42)), (q1, .inr (12, [.ref q39, w3, w4, w5, w6, w7, w8, .ref q40, .ref q41, w11, w12, w13, w14, w15, w16, w17, w18, w19, w20, w21, w22, w23, w24, w25, w26, w27, w28, w29, w30, w31, w32, w33, w34, w35, w36, w37, w38]))])) 0 0 (va_A [(q41, .inl (g.2 0, 8, .inl f44)), (q40, .inl (g.2 0, 8, .inl f44)), (q39, .inl (g.2 0, 497, .inl f42)), (q1, .inr (12, [.ref q39, w3, w4, w5, w6, w7, w8, .ref q40, .ref q41, w11, w12, w13, w14, w15, w16, w17, w18, w19, w20, w21, w22, w23, w24, w25, w26, w27, w28, w29, w30, w31, w32, w33, w34, w35, w36, w37, w38]))] sz) := by
  refine ofN (by decide) (Nat.le_of_ble_eq_true rfl) rfl ?_
  intro p e s m args below meth c A ls hAe hsz hx hb hml hr hlocks hin hown hE hP hD hA hS hl
  have hown : s.vm.findClass RX10 = some m.cls := hown
  refine lv_aload_n hx hb dX10_isTooGreat_0 rfl (lv_at hl 0 rfl) ?_
  refine g_v (wr := []) (rV (rest := []) hx hb hml hown hE hP hD 3 rfl rfl (c251_X10_layLengths l g q1 q39 q40 q41 x49 w3 w4 w5 w6 w7 w8 w11 w12 w13 w14 w15 w16 w17 w18 w19 w20 w21 w22 w23 w24 w25 w26 w27 w28 w29 w30 w31 w32 w33 w34 w35 w36 w37 w38 f42 f44 (hf43) (hf45) (hf46) (hf47) (hf48) (hf51) (hf52) (hf53) (hf54) (hf55) (hf56) (hf57) (hf58) (hf59) (hf60) (hf61) (hf62) h50 s.heap.size) (kV_X10_layLengths hE (e1452 hE) rfl rfl ⟨(Nat.le_of_ble_eq_true rfl), (Nat.le_of_ble_eq_true rfl)⟩) [0, 1, 2, 3] rfl (by decide) rfl hl.1 rfl (lv_room (Nat.le_of_ble_eq_true rfl)) dX10_isTooGreat_1 ⟨(Nat.le_of_ble_eq_true rfl), (Nat.le_of_ble_eq_true rfl)⟩) hP hD hS hA [0, 1, 2, 3] [] rfl rfl (by decide) (by decide) (fun u1 H locs hP hD hS => ?_)
  have hP : va_P g.1 vwCl [(q41, .inl (g.2 0, 8, .inl (upd f44 1 1))), (q40, .inl (g.2 0, 8, .inl (upd f44 1 x49))), (q39, .inl (g.2 0, 497, .inl f42)), (q1, .inr (12, [.ref q39, w3, w4, w5, w6, w7, w8, .ref q40, .ref q41, w11, w12, w13, w14, w15, w16, w17, w18, w19, w20, w21, w22, w23, w24, w25, w26, w27, w28, w29, w30, w31, w32, w33, w34, w35, w36, w37, w38]))] H := hP
  have hD : va_D A [(q41, .inl (g.2 0, 8, .inl (upd f44 1 1))), (q40, .inl (g.2 0, 8, .inl (upd f44 1 x49))), (q39, .inl (g.2 0, 497, .inl f42)), (q1, .inr (12, [.ref q39, w3, w4, w5, w6, w7, w8, .ref q40, .ref q41, w11, w12, w13, w14, w15, w16, w17, w18, w19, w20, w21, w22, w23, w24, w25, w26, w27, w28, w29, w30, w31, w32, w33, w34, w35, w36, w37, w38]))] := hD
  refine lv_iconst (v := 0) hx hb dX10_isTooGreat_4 (by decide) ?_
  refine lv_istore_n (lv' := [(1, .int 0), (0, .ref q1)]) hx hb dX10_isTooGreat_5 rfl hl (by decide) rfl (fun ls hl => ?_)
  refine lv_iconst (v := 0) hx hb dX10_isTooGreat_6 (by decide) ?_
  refine lv_istore_n (lv' := [(2, .int 0), (1, .int 0), (0, .ref q1)]) hx hb dX10_isTooGreat_7 rfl hl (by decide) rfl (fun ls hl => ?_)
  refine lv_iload_n hx hb dX10_isTooGreat_8 rfl (lv_at hl 0 rfl) ?_
  refine lv_bipush (v := 8) hx hb dX10_isTooGreat_9 (by decide) ?_
  refine lv_icmp_ge (tgt := 40) hx hb dX10_isTooGreat_11 (by decide) (fun h => absurd h (by decide)) (fun _ => ?_)
  refine lv_iload_n hx hb dX10_isTooGreat_14 rfl (lv_at hl 1 rfl) ?_
  refine lv_aload_n hx hb dX10_isTooGreat_15 rfl (lv_at hl 2 rfl) ?_
  refine gf_RX10_22 hx hb hown hE hP 3 rfl rfl dX10_isTooGreat_16 ?_
  refine lv_iload_n hx hb dX10_isTooGreat_19 rfl (lv_at hl 0 rfl) ?_
  refine x_iald (v := 0) hx hb hE hP 1 rfl 0 (x_in (by decide)) (by decide) ((pk_un (by decide)).trans hf45) dX10_isTooGreat_20 ?_
  refine lv_sipush (v := 20000) hx hb dX10_isTooGreat_21 (by decide) ?_
  refine lv_icmp_le (tgt := 31) hx hb dX10_isTooGreat_24 (by decide) (fun _ => ?_) (fun h => absurd (by decide) h)
  refine lv_iconst (v := 0) hx hb dX10_isTooGreat_31 (by decide) ?_
  refine x_ior (v := 0) hx hb dX10_isTooGreat_32 (by decide) ?_
  refine lv_istore_n (lv' := [(1, .int 0), (2, .int 0), (0, .ref q1)]) hx hb dX10_isTooGreat_33 rfl hl (by decide) rfl (fun ls hl => ?_)
  refine lv_iinc (v := 1) (lv' := [(2, .int 1), (1, .int 0), (0, .ref q1)]) hx hb dX10_isTooGreat_34 hl (k := 1) rfl (by decide) (by decide) rfl (fun ls hl => ?_)
  refine lv_goto (tgt := 8) hx hb dX10_isTooGreat_37 (by decide) ?_
  refine lv_iload_n hx hb dX10_isTooGreat_8 rfl (lv_at hl 0 rfl) ?_
  refine lv_bipush (v := 8) hx hb dX10_isTooGreat_9 (by decide) ?_
  refine lv_icmp_ge (tgt := 40) hx hb dX10_isTooGreat_11 (by decide) (fun h => absurd h (by decide)) (fun _ => ?_)
  refine lv_iload_n hx hb dX10_isTooGreat_14 rfl (lv_at hl 1 rfl) ?_
  refine lv_aload_n hx hb dX10_isTooGreat_15 rfl (lv_at hl 2 rfl) ?_
  refine gf_RX10_22 hx hb hown hE hP 3 rfl rfl dX10_isTooGreat_16 ?_
  refine lv_iload_n hx hb dX10_isTooGreat_19 rfl (lv_at hl 0 rfl) ?_
  refine x_iald (v := x49) hx hb hE hP 1 rfl 1 (x_in (by decide)) (by decide) pk_us dX10_isTooGreat_20 ?_
  refine lv_sipush (v := 20000) hx hb dX10_isTooGreat_21 (by decide) ?_
  refine lv_icmp_le (tgt := 31) hx hb dX10_isTooGreat_24 (by decide) (fun _ => ?_) (fun h => absurd h63 h)
  refine lv_iconst (v := 0) hx hb dX10_isTooGreat_31 (by decide) ?_
  refine x_ior (v := 0) hx hb dX10_isTooGreat_32 (by decide) ?_
  refine lv_istore_n (lv' := [(1, .int 0), (2, .int 1), (0, .ref q1)]) hx hb dX10_isTooGreat_33 rfl hl (by decide) rfl (fun ls hl => ?_)
  refine lv_iinc (v := 2) (lv' := [(2, .int 2), (1, .int 0), (0, .ref q1)]) hx hb dX10_isTooGreat_34 hl (k := 1) rfl (by decide) (by decide) rfl (fun ls hl => ?_)
  refine lv_goto (tgt := 8) hx hb dX10_isTooGreat_37 (by decide) ?_
  refine lv_iload_n hx hb dX10_isTooGreat_8 rfl (lv_at hl 0 rfl) ?_
  refine lv_bipush (v := 8) hx hb dX10_isTooGreat_9 (by decide) ?_
  refine lv_icmp_ge (tgt := 40) hx hb dX10_isTooGreat_11 (by decide) (fun h => absurd h (by decide)) (fun _ => ?_)
  refine lv_iload_n hx hb dX10_isTooGreat_14 rfl (lv_at hl 1 rfl) ?_
  refine lv_aload_n hx hb dX10_isTooGreat_15 rfl (lv_at hl 2 rfl) ?_
  refine gf_RX10_22 hx hb hown hE hP 3 rfl rfl dX10_isTooGreat_16 ?_
  refine lv_iload_n hx hb dX10_isTooGreat_19 rfl (lv_at hl 0 rfl) ?_
  refine x_iald (v := 0) hx hb hE hP 1 rfl 2 (x_in (by decide)) (by decide) ((pk_un (by decide)).trans hf52) dX10_isTooGreat_20 ?_
  refine lv_sipush (v := 20000) hx hb dX10_isTooGreat_21 (by decide) ?_
  refine lv_icmp_le (tgt := 31) hx hb dX10_isTooGreat_24 (by decide) (fun _ => ?_) (fun h => absurd (by decide) h)
  refine lv_iconst (v := 0) hx hb dX10_isTooGreat_31 (by decide) ?_
  refine x_ior (v := 0) hx hb dX10_isTooGreat_32 (by decide) ?_
  refine lv_istore_n (lv' := [(1, .int 0), (2, .int 2), (0, .ref q1)]) hx hb dX10_isTooGreat_33 rfl hl (by decide) rfl (fun ls hl => ?_)
  refine lv_iinc (v := 3) (lv' := [(2, .int 3), (1, .int 0), (0, .ref q1)]) hx hb dX10_isTooGreat_34 hl (k := 1) rfl (by decide) (by decide) rfl (fun ls hl => ?_)
  refine lv_goto (tgt := 8) hx hb dX10_isTooGreat_37 (by decide) ?_
  refine lv_iload_n hx hb dX10_isTooGreat_8 rfl (lv_at hl 0 rfl) ?_
  refine lv_bipush (v := 8) hx hb dX10_isTooGreat_9 (by decide) ?_
  refine lv_icmp_ge (tgt := 40) hx hb dX10_isTooGreat_11 (by decide) (fun h => absurd h (by decide)) (fun _ => ?_)
  refine lv_iload_n hx hb dX10_isTooGreat_14 rfl (lv_at hl 1 rfl) ?_
  refine lv_aload_n hx hb dX10_isTooGreat_15 rfl (lv_at hl 2 rfl) ?_
  refine gf_RX10_22 hx hb hown hE hP 3 rfl rfl dX10_isTooGreat_16 ?_
  refine lv_iload_n hx hb dX10_isTooGreat_19 rfl (lv_at hl 0 rfl) ?_
  refine x_iald (v := 0) hx hb hE hP 1 rfl 3 (x_in (by decide)) (by decide) ((pk_un (by decide)).trans hf54) dX10_isTooGreat_20 ?_
  refine lv_sipush (v := 20000) hx hb dX10_isTooGreat_21 (by decide) ?_
  refine lv_icmp_le (tgt := 31) hx hb dX10_isTooGreat_24 (by decide) (fun _ => ?_) (fun h => absurd (by decide) h)
  refine lv_iconst (v := 0) hx hb dX10_isTooGreat_31 (by decide) ?_
  refine x_ior (v := 0) hx hb dX10_isTooGreat_32 (by decide) ?_
  refine lv_istore_n (lv' := [(1, .int 0), (2, .int 3), (0, .ref q1)]) hx hb dX10_isTooGreat_33 rfl hl (by decide) rfl (fun ls hl => ?_)
  refine lv_iinc (v := 4) (lv' := [(2, .int 4), (1, .int 0), (0, .ref q1)]) hx hb dX10_isTooGreat_34 hl (k := 1) rfl (by decide) (by decide) rfl (fun ls hl => ?_)
  refine lv_goto (tgt := 8) hx hb dX10_isTooGreat_37 (by decide) ?_
  refine lv_iload_n hx hb dX10_isTooGreat_8 rfl (lv_at hl 0 rfl) ?_
  refine lv_bipush (v := 8) hx hb dX10_isTooGreat_9 (by decide) ?_
  refine lv_icmp_ge (tgt := 40) hx hb dX10_isTooGreat_11 (by decide) (fun h => absurd h (by decide)) (fun _ => ?_)
  refine lv_iload_n hx hb dX10_isTooGreat_14 rfl (lv_at hl 1 rfl) ?_
  refine lv_aload_n hx hb dX10_isTooGreat_15 rfl (lv_at hl 2 rfl) ?_
  refine gf_RX10_22 hx hb hown hE hP 3 rfl rfl dX10_isTooGreat_16 ?_
  refine lv_iload_n hx hb dX10_isTooGreat_19 rfl (lv_at hl 0 rfl) ?_
  refine x_iald (v := 0) hx hb hE hP 1 rfl 4 (x_in (by decide)) (by decide) ((pk_un (by decide)).trans hf56) dX10_isTooGreat_20 ?_
  refine lv_sipush (v := 20000) hx hb dX10_isTooGreat_21 (by decide) ?_
  refine lv_icmp_le (tgt := 31) hx hb dX10_isTooGreat_24 (by decide) (fun _ => ?_) (fun h => absurd (by decide) h)
  refine lv_iconst (v := 0) hx hb dX10_isTooGreat_31 (by decide) ?_
  refine x_ior (v := 0) hx hb dX10_isTooGreat_32 (by decide) ?_
  refine lv_istore_n (lv' := [(1, .int 0), (2, .int 4), (0, .ref q1)]) hx hb dX10_isTooGreat_33 rfl hl (by decide) rfl (fun ls hl => ?_)
  refine lv_iinc (v := 5) (lv' := [(2, .int 5), (1, .int 0), (0, .ref q1)]) hx hb dX10_isTooGreat_34 hl (k := 1) rfl (by decide) (by decide) rfl (fun ls hl => ?_)
  refine lv_goto (tgt := 8) hx hb dX10_isTooGreat_37 (by decide) ?_
  refine lv_iload_n hx hb dX10_isTooGreat_8 rfl (lv_at hl 0 rfl) ?_
  refine lv_bipush (v := 8) hx hb dX10_isTooGreat_9 (by decide) ?_
  refine lv_icmp_ge (tgt := 40) hx hb dX10_isTooGreat_11 (by decide) (fun h => absurd h (by decide)) (fun _ => ?_)
  refine lv_iload_n hx hb dX10_isTooGreat_14 rfl (lv_at hl 1 rfl) ?_
  refine lv_aload_n hx hb dX10_isTooGreat_15 rfl (lv_at hl 2 rfl) ?_
  refine gf_RX10_22 hx hb hown hE hP 3 rfl rfl dX10_isTooGreat_16 ?_
  refine lv_iload_n hx hb dX10_isTooGreat_19 rfl (lv_at hl 0 rfl) ?_
  refine x_iald (v := 0) hx hb hE hP 1 rfl 5 (x_in (by decide)) (by decide) ((pk_un (by decide)).trans hf58) dX10_isTooGreat_20 ?_
  refine lv_sipush (v := 20000) hx hb dX10_isTooGreat_21 (by decide) ?_
  refine lv_icmp_le (tgt := 31) hx hb dX10_isTooGreat_24 (by decide) (fun _ => ?_) (fun h => absurd (by decide) h)
  refine lv_iconst (v := 0) hx hb dX10_isTooGreat_31 (by decide) ?_
  refine x_ior (v := 0) hx hb dX10_isTooGreat_32 (by decide) ?_
  refine lv_istore_n (lv' := [(1, .int 0), (2, .int 5), (0, .ref q1)]) hx hb dX10_isTooGreat_33 rfl hl (by decide) rfl (fun ls hl => ?_)
  refine lv_iinc (v := 6) (lv' := [(2, .int 6), (1, .int 0), (0, .ref q1)]) hx hb dX10_isTooGreat_34 hl (k := 1) rfl (by decide) (by decide) rfl (fun ls hl => ?_)
  refine lv_goto (tgt := 8) hx hb dX10_isTooGreat_37 (by decide) ?_
  refine lv_iload_n hx hb dX10_isTooGreat_8 rfl (lv_at hl 0 rfl) ?_
  refine lv_bipush (v := 8) hx hb dX10_isTooGreat_9 (by decide) ?_
  refine lv_icmp_ge (tgt := 40) hx hb dX10_isTooGreat_11 (by decide) (fun h => absurd h (by decide)) (fun _ => ?_)
  refine lv_iload_n hx hb dX10_isTooGreat_14 rfl (lv_at hl 1 rfl) ?_
  refine lv_aload_n hx hb dX10_isTooGreat_15 rfl (lv_at hl 2 rfl) ?_
  refine gf_RX10_22 hx hb hown hE hP 3 rfl rfl dX10_isTooGreat_16 ?_
  refine lv_iload_n hx hb dX10_isTooGreat_19 rfl (lv_at hl 0 rfl) ?_
  refine x_iald (v := 0) hx hb hE hP 1 rfl 6 (x_in (by decide)) (by decide) ((pk_un (by decide)).trans hf60) dX10_isTooGreat_20 ?_
  refine lv_sipush (v := 20000) hx hb dX10_isTooGreat_21 (by decide) ?_
  refine lv_icmp_le (tgt := 31) hx hb dX10_isTooGreat_24 (by decide) (fun _ => ?_) (fun h => absurd (by decide) h)
  refine lv_iconst (v := 0) hx hb dX10_isTooGreat_31 (by decide) ?_
  refine x_ior (v := 0) hx hb dX10_isTooGreat_32 (by decide) ?_
  refine lv_istore_n (lv' := [(1, .int 0), (2, .int 6), (0, .ref q1)]) hx hb dX10_isTooGreat_33 rfl hl (by decide) rfl (fun ls hl => ?_)
  refine lv_iinc (v := 7) (lv' := [(2, .int 7), (1, .int 0), (0, .ref q1)]) hx hb dX10_isTooGreat_34 hl (k := 1) rfl (by decide) (by decide) rfl (fun ls hl => ?_)
  refine lv_goto (tgt := 8) hx hb dX10_isTooGreat_37 (by decide) ?_
  refine lv_iload_n hx hb dX10_isTooGreat_8 rfl (lv_at hl 0 rfl) ?_
  refine lv_bipush (v := 8) hx hb dX10_isTooGreat_9 (by decide) ?_
  refine lv_icmp_ge (tgt := 40) hx hb dX10_isTooGreat_11 (by decide) (fun h => absurd h (by decide)) (fun _ => ?_)
  refine lv_iload_n hx hb dX10_isTooGreat_14 rfl (lv_at hl 1 rfl) ?_
  refine lv_aload_n hx hb dX10_isTooGreat_15 rfl (lv_at hl 2 rfl) ?_
  refine gf_RX10_22 hx hb hown hE hP 3 rfl rfl dX10_isTooGreat_16 ?_
  refine lv_iload_n hx hb dX10_isTooGreat_19 rfl (lv_at hl 0 rfl) ?_
  refine x_iald (v := 0) hx hb hE hP 1 rfl 7 (x_in (by decide)) (by decide) ((pk_un (by decide)).trans hf62) dX10_isTooGreat_20 ?_
  refine lv_sipush (v := 20000) hx hb dX10_isTooGreat_21 (by decide) ?_
  refine lv_icmp_le (tgt := 31) hx hb dX10_isTooGreat_24 (by decide) (fun _ => ?_) (fun h => absurd (by decide) h)
  refine lv_iconst (v := 0) hx hb dX10_isTooGreat_31 (by decide) ?_
  refine x_ior (v := 0) hx hb dX10_isTooGreat_32 (by decide) ?_
  refine lv_istore_n (lv' := [(1, .int 0), (2, .int 7), (0, .ref q1)]) hx hb dX10_isTooGreat_33 rfl hl (by decide) rfl (fun ls hl => ?_)
  refine lv_iinc (v := 8) (lv' := [(2, .int 8), (1, .int 0), (0, .ref q1)]) hx hb dX10_isTooGreat_34 hl (k := 1) rfl (by decide) (by decide) rfl (fun ls hl => ?_)
  refine lv_goto (tgt := 8) hx hb dX10_isTooGreat_37 (by decide) ?_
  refine lv_iload_n hx hb dX10_isTooGreat_8 rfl (lv_at hl 0 rfl) ?_
  refine lv_bipush (v := 8) hx hb dX10_isTooGreat_9 (by decide) ?_
  refine lv_icmp_ge (tgt := 40) hx hb dX10_isTooGreat_11 (by decide) (fun _ => ?_) (fun h => absurd (by decide) h)
  refine lv_iconst (v := 0) hx hb dX10_isTooGreat_40 (by decide) ?_
  refine lv_istore_n (lv' := [(2, .int 0), (1, .int 0), (0, .ref q1)]) hx hb dX10_isTooGreat_41 rfl hl (by decide) rfl (fun ls hl => ?_)
  refine lv_iconst (v := 0) hx hb dX10_isTooGreat_42 (by decide) ?_
  refine lv_istore_n (lv' := [(3, .int 0), (2, .int 0), (1, .int 0), (0, .ref q1)]) hx hb dX10_isTooGreat_43 rfl hl (by decide) rfl (fun ls hl => ?_)
  refine lv_iload_n hx hb dX10_isTooGreat_44 rfl (lv_at hl 0 rfl) ?_
  refine lv_aload_n hx hb dX10_isTooGreat_45 rfl (lv_at hl 3 rfl) ?_
  refine gf_RX10_9 hx hb hown hE hP 3 rfl rfl dX10_isTooGreat_46 ?_
  refine lv_sipush (v := 392) hx hb dX10_isTooGreat_49 (by decide) ?_
  refine x_iald (v := 0) hx hb hE hP 2 rfl 392 (x_in (by decide)) (by decide) hf64 dX10_isTooGreat_52 ?_
  refine lv_icmp_ge (tgt := 115) hx hb dX10_isTooGreat_53 (by decide) (fun _ => ?_) (fun h => absurd (by decide) h)
  refine lv_iload_n hx hb dX10_isTooGreat_115 rfl (lv_at hl 2 rfl) ?_
  refine lv_if_ne (tgt := 126) hx hb dX10_isTooGreat_116 (by decide) (fun h => absurd h (by decide)) (fun _ => ?_)
  refine lv_iload_n hx hb dX10_isTooGreat_119 rfl (lv_at hl 1 rfl) ?_
  refine lv_sipush (v := 300) hx hb dX10_isTooGreat_120 (by decide) ?_
  refine lv_icmp_le (tgt := 130) hx hb dX10_isTooGreat_123 (by decide) (fun _ => ?_) (fun h => absurd (by decide) h)
  refine lv_iconst (v := 0) hx hb dX10_isTooGreat_130 (by decide) ?_
  exact x_zret hx hb hr rfl rfl hlocks hP hD hS hAe hsz (Nat.le_of_ble_eq_true rfl) (Nat.le_of_ble_eq_true rfl) (fun _ => 0) [0, 1, 2, 3] (by decide) rfl dX10_isTooGreat_131

set_option maxHeartbeats 4000000 in
set_option maxRecDepth 100000 in
theorem c253_X10_adds (l : Launch) (g : gG) (q1 q42 q46 q47 : Nat) (x2 x3 x4 : Int32) (w6 w7 w8 w9 w10 w11 w14 w15 w16 w17 w18 w19 w20 w21 w22 w23 w24 w25 w26 w27 w28 w29 w30 w31 w32 w33 w34 w35 w36 w37 w38 w39 w40 w41 : Value) (f43 : Nat → Int32) (f49 : Nat → Int32) (hf44 : f43 49 = 0) (hf45 : f43 50 = 0) (hf48 : f43 0 = 0) (hf50 : f49 0 = 0) (hf52 : f43 98 = 0) (hf53 : f49 2 = 0) (hf54 : f43 147 = 0) (hf55 : f49 3 = 0) (hf56 : f43 196 = 0) (hf57 : f49 4 = 0) (hf58 : f43 245 = 0) (hf59 : f49 5 = 0) (hf60 : f43 294 = 0) (hf61 : f49 6 = 0) (hf62 : f43 343 = 0) (hf63 : f49 7 = 0) (hf65 : f43 392 = 0) (h51 : x3 ≤ 200000) (h64 : x3 ≤ 20000) (sz : Nat) : Met l yX10_adds [Cond.code yX10_adds cX10_adds 8 (some .boolean)] ({ frames := 4, cells := 0, slots := 0, locals := 91 } : Room) (va_Pc [.ref q1, .int 1, .int 0, .int x2, .int x3, .int x4] (PX g sz [(q47, .inl (g.2 0, 8, .inl f49)), (q46, .inl (g.2 0, 8, .inl f49)), (q42, .inl (g.2 0, 497, .inl f43)), (q1, .inr (12, [.ref q42, w6, w7, w8, w9, w10, w11, .ref q46, .ref q47, w14, w15, w16, w17, w18, w19, w20, w21, w22, w23, w24, w25, w26, w27, w28, w29, w30, w31, w32, w33, w34, w35, w36, w37, w38, w39, w40, w41]))])) (QI g [(q47, .inl (g.2 0, 8, .inl f49)), (q46, .inl (g.2 0, 8, .inl f49)), (q42, .inl (g.2 0, 497, .inl f43)), (q1, .inr (12, [.ref q42, w6, w7, w8, w9, w10, w11, .ref q46, .ref q47, w14, w15, w16, w17, w18, w19, w20, w21, w22, w23, w24, w25, w26, w27, w28, w29, w30, w31, w32, w33, w34, w35, w36, w37, w38, w39, w40, w41]))] sz 1 (fun _ => [(q47, .inl (g.2 0, 8, .inl (upd f49 1 1))), (q46, .inl (g.2 0, 8, .inl (upd f49 1 x3))), (q42, .inl (g.2 0, 497, .inl (upd (upd (upd (upd f43 51 x2) 52 x3) 53 x4) 49 1))), (q1, .inr (12, [.ref q42, w6, w7, w8, w9, w10, w11, .ref q46, .ref q47, w14, w15, w16, w17, w18, w19, w20, w21, w22, w23, w24, w25, w26, w27, w28, w29, w30, w31, w32, w33, w34, w35, w36, w37, w38, w39, w40, w41]))])) 0 0 (va_A [(q47, .inl (g.2 0, 8, .inl f49)), (q46, .inl (g.2 0, 8, .inl f49)), (q42, .inl (g.2 0, 497, .inl f43)), (q1, .inr (12, [.ref q42, w6, w7, w8, w9, w10, w11, .ref q46, .ref q47, w14, w15, w16, w17, w18, w19, w20, w21, w22, w23, w24, w25, w26, w27, w28, w29, w30, w31, w32, w33, w34, w35, w36, w37, w38, w39, w40, w41]))] sz) := by
  refine ofN (by decide) (Nat.le_of_ble_eq_true rfl) rfl ?_
  intro p e s m args below meth c A ls hAe hsz hx hb hml hr hlocks hin hown hE hP hD hA hS hl
  have hown : s.vm.findClass RX10 = some m.cls := hown
  refine lv_iload_n hx hb dX10_adds_0 rfl (lv_at hl 1 rfl) ?_
  refine g0_i (rS (rest := []) hx hb hml hown hE hP hD (c203_X10_itemsAt l g s.heap.size) (kS_X10_itemsAt hE (e1445 hE) rfl rfl ⟨(Nat.le_of_ble_eq_true rfl), (Nat.le_of_ble_eq_true rfl)⟩) [] rfl (by decide) rfl hl.1 rfl (lv_room (Nat.le_of_ble_eq_true rfl)) dX10_adds_1 ⟨(Nat.le_of_ble_eq_true rfl), (Nat.le_of_ble_eq_true rfl)⟩) hP hD hS hA (fun u9 H locs hP hS => ?_)
  refine lv_istore (lv' := [(6, .int 49), (0, .ref q1), (1, .int 1), (2, .int 0), (3, .int x2), (4, .int x3), (5, .int x4)]) hx hb dX10_adds_4 hl (by decide) rfl (fun ls hl => ?_)
  refine lv_aload_n hx hb dX10_adds_6 rfl (lv_at hl 1 rfl) ?_
  refine gf_RX10_9 hx hb hown hE hP 3 rfl rfl dX10_adds_7 ?_
  refine lv_iload hx hb dX10_adds_10 (lv_at hl 0 rfl) ?_
  refine x_iald (v := 0) hx hb hE hP 2 rfl 49 (x_in (by decide)) (by decide) hf44 dX10_adds_12 ?_
  refine lv_bipush (v := 12) hx hb dX10_adds_13 (by decide) ?_
  refine lv_icmp_ne (tgt := 20) hx hb dX10_adds_15 (by decide) (fun _ => ?_) (fun h => absurd h (by decide))
  refine lv_iload hx hb dX10_adds_20 (lv_at hl 0 rfl) ?_
  refine lv_iconst (v := 1) hx hb dX10_adds_22 (by decide) ?_
  refine x_iadd (v := 50) hx hb dX10_adds_23 (by decide) ?_
  refine lv_iconst (v := 4) hx hb dX10_adds_24 (by decide) ?_
  refine lv_aload_n hx hb dX10_adds_25 rfl (lv_at hl 1 rfl) ?_
  refine gf_RX10_9 hx hb hown hE hP 3 rfl rfl dX10_adds_26 ?_
  refine lv_iload hx hb dX10_adds_29 (lv_at hl 0 rfl) ?_
  refine x_iald (v := 0) hx hb hE hP 2 rfl 49 (x_in (by decide)) (by decide) hf44 dX10_adds_31 ?_
  refine x_imul (v := 0) hx hb dX10_adds_32 (by decide) ?_
  refine x_iadd (v := 50) hx hb dX10_adds_33 (by decide) ?_
  refine lv_istore (lv' := [(7, .int 50), (6, .int 49), (0, .ref q1), (1, .int 1), (2, .int 0), (3, .int x2), (4, .int x3), (5, .int x4)]) hx hb dX10_adds_34 hl (by decide) rfl (fun ls hl => ?_)
  refine lv_aload_n hx hb dX10_adds_36 rfl (lv_at hl 2 rfl) ?_
  refine gf_RX10_9 hx hb hown hE hP 3 rfl rfl dX10_adds_37 ?_
  refine lv_iload hx hb dX10_adds_40 (lv_at hl 0 rfl) ?_
  refine lv_iload_n hx hb dX10_adds_42 rfl (lv_at hl 4 rfl) ?_
  refine x_iast_same hx hb hE hP hD hS 2 rfl 50 (x_in (by decide)) (by decide) hf45 dX10_adds_43 (fun H locs hP hD hS => ?_)
  refine lv_aload_n hx hb dX10_adds_44 rfl (lv_at hl 2 rfl) ?_
  refine gf_RX10_9 hx hb hown hE hP 3 rfl rfl dX10_adds_45 ?_
  refine lv_iload hx hb dX10_adds_48 (lv_at hl 0 rfl) ?_
  refine lv_iconst (v := 1) hx hb dX10_adds_50 (by decide) ?_
  refine x_iadd (v := 51) hx hb dX10_adds_51 (by decide) ?_
  refine lv_iload_n hx hb dX10_adds_52 rfl (lv_at hl 5 rfl) ?_
  refine x_iast (ws' := [(q47, .inl (g.2 0, 8, .inl f49)), (q46, .inl (g.2 0, 8, .inl f49)), (q42, .inl (g.2 0, 497, .inl (upd f43 51 x2))), (q1, .inr (12, [.ref q42, w6, w7, w8, w9, w10, w11, .ref q46, .ref q47, w14, w15, w16, w17, w18, w19, w20, w21, w22, w23, w24, w25, w26, w27, w28, w29, w30, w31, w32, w33, w34, w35, w36, w37, w38, w39, w40, w41]))]) hx hb hE hP hD hS 2 rfl 51 (x_in (by decide)) (by decide) dX10_adds_53 rfl (fun H locs hP hD hS => ?_)
  refine lv_aload_n hx hb dX10_adds_54 rfl (lv_at hl 2 rfl) ?_
  refine gf_RX10_9 hx hb hown hE hP 3 rfl rfl dX10_adds_55 ?_
  refine lv_iload hx hb dX10_adds_58 (lv_at hl 0 rfl) ?_
  refine lv_iconst (v := 2) hx hb dX10_adds_60 (by decide) ?_
  refine x_iadd (v := 52) hx hb dX10_adds_61 (by decide) ?_
  refine lv_iload hx hb dX10_adds_62 (lv_at hl 6 rfl) ?_
  refine x_iast (ws' := [(q47, .inl (g.2 0, 8, .inl f49)), (q46, .inl (g.2 0, 8, .inl f49)), (q42, .inl (g.2 0, 497, .inl (upd (upd f43 51 x2) 52 x3))), (q1, .inr (12, [.ref q42, w6, w7, w8, w9, w10, w11, .ref q46, .ref q47, w14, w15, w16, w17, w18, w19, w20, w21, w22, w23, w24, w25, w26, w27, w28, w29, w30, w31, w32, w33, w34, w35, w36, w37, w38, w39, w40, w41]))]) hx hb hE hP hD hS 2 rfl 52 (x_in (by decide)) (by decide) dX10_adds_64 rfl (fun H locs hP hD hS => ?_)
  refine lv_aload_n hx hb dX10_adds_65 rfl (lv_at hl 2 rfl) ?_
  refine gf_RX10_9 hx hb hown hE hP 3 rfl rfl dX10_adds_66 ?_
  refine lv_iload hx hb dX10_adds_69 (lv_at hl 0 rfl) ?_
  refine lv_iconst (v := 3) hx hb dX10_adds_71 (by decide) ?_
  refine x_iadd (v := 53) hx hb dX10_adds_72 (by decide) ?_
  refine lv_iload hx hb dX10_adds_73 (lv_at hl 7 rfl) ?_
  refine x_iast (ws' := [(q47, .inl (g.2 0, 8, .inl f49)), (q46, .inl (g.2 0, 8, .inl f49)), (q42, .inl (g.2 0, 497, .inl (upd (upd (upd f43 51 x2) 52 x3) 53 x4))), (q1, .inr (12, [.ref q42, w6, w7, w8, w9, w10, w11, .ref q46, .ref q47, w14, w15, w16, w17, w18, w19, w20, w21, w22, w23, w24, w25, w26, w27, w28, w29, w30, w31, w32, w33, w34, w35, w36, w37, w38, w39, w40, w41]))]) hx hb hE hP hD hS 2 rfl 53 (x_in (by decide)) (by decide) dX10_adds_75 rfl (fun H locs hP hD hS => ?_)
  refine lv_aload_n hx hb dX10_adds_76 rfl (lv_at hl 2 rfl) ?_
  refine gf_RX10_9 hx hb hown hE hP 3 rfl rfl dX10_adds_77 ?_
  refine lv_iload hx hb dX10_adds_80 (lv_at hl 1 rfl) ?_
  refine lv_dup2_11 hx hb dX10_adds_82 rfl rfl ?_
  refine x_iald (v := 0) hx hb hE hP 2 rfl 49 (x_in (by decide)) (by decide) ((pk_un (by decide)).trans ((pk_un (by decide)).trans ((pk_un (by decide)).trans hf44))) dX10_adds_83 ?_
  refine lv_iconst (v := 1) hx hb dX10_adds_84 (by decide) ?_
  refine x_iadd (v := 1) hx hb dX10_adds_85 (by decide) ?_
  refine x_iast (ws' := [(q47, .inl (g.2 0, 8, .inl f49)), (q46, .inl (g.2 0, 8, .inl f49)), (q42, .inl (g.2 0, 497, .inl (upd (upd (upd (upd f43 51 x2) 52 x3) 53 x4) 49 1))), (q1, .inr (12, [.ref q42, w6, w7, w8, w9, w10, w11, .ref q46, .ref q47, w14, w15, w16, w17, w18, w19, w20, w21, w22, w23, w24, w25, w26, w27, w28, w29, w30, w31, w32, w33, w34, w35, w36, w37, w38, w39, w40, w41]))]) hx hb hE hP hD hS 2 rfl 49 (x_in (by decide)) (by decide) dX10_adds_86 rfl (fun H locs hP hD hS => ?_)
  refine lv_aload_n hx hb dX10_adds_87 rfl (lv_at hl 2 rfl) ?_
  refine g_i (wr := []) (rV (rest := []) hx hb hml hown hE hP hD 3 rfl rfl (c252_X10_isTooGreat l g q1 q42 q46 q47 x3 w6 w7 w8 w9 w10 w11 w14 w15 w16 w17 w18 w19 w20 w21 w22 w23 w24 w25 w26 w27 w28 w29 w30 w31 w32 w33 w34 w35 w36 w37 w38 w39 w40 w41 (upd (upd (upd (upd f43 51 x2) 52 x3) 53 x4) 49 1) f49 (((pk_un (by decide)).trans ((pk_un (by decide)).trans ((pk_un (by decide)).trans ((pk_un (by decide)).trans hf48))))) (hf50) (pk_us) (((pk_un (by decide)).trans ((pk_un (by decide)).trans ((pk_un (by decide)).trans ((pk_un (by decide)).trans hf45))))) (((pk_un (by decide)).trans ((pk_un (by decide)).trans pk_us))) (((pk_un (by decide)).trans ((pk_un (by decide)).trans ((pk_un (by decide)).trans ((pk_un (by decide)).trans hf52))))) (hf53) (((pk_un (by decide)).trans ((pk_un (by decide)).trans ((pk_un (by decide)).trans ((pk_un (by decide)).trans hf54))))) (hf55) (((pk_un (by decide)).trans ((pk_un (by decide)).trans ((pk_un (by decide)).trans ((pk_un (by decide)).trans hf56))))) (hf57) (((pk_un (by decide)).trans ((pk_un (by decide)).trans ((pk_un (by decide)).trans ((pk_un (by decide)).trans hf58))))) (hf59) (((pk_un (by decide)).trans ((pk_un (by decide)).trans ((pk_un (by decide)).trans ((pk_un (by decide)).trans hf60))))) (hf61) (((pk_un (by decide)).trans ((pk_un (by decide)).trans ((pk_un (by decide)).trans ((pk_un (by decide)).trans hf62))))) (hf63) (((pk_un (by decide)).trans ((pk_un (by decide)).trans ((pk_un (by decide)).trans ((pk_un (by decide)).trans hf65))))) h51 h64 H.size) (kV_X10_isTooGreat hE (e1448 hE) rfl rfl ⟨(Nat.le_of_ble_eq_true rfl), (Nat.le_of_ble_eq_true rfl)⟩) [0, 1, 2, 3] rfl (by decide) rfl hl.1 rfl (lv_room (Nat.le_of_ble_eq_true rfl)) dX10_adds_88 ⟨(Nat.le_of_ble_eq_true rfl), (Nat.le_of_ble_eq_true rfl)⟩) hP hD hS hA [0, 1, 2, 3] [] rfl rfl (by decide) (by decide) (fun u2 H locs hP hD hS => ?_)
  have hP : va_P g.1 vwCl [(q47, .inl (g.2 0, 8, .inl (upd f49 1 1))), (q46, .inl (g.2 0, 8, .inl (upd f49 1 x3))), (q42, .inl (g.2 0, 497, .inl (upd (upd (upd (upd f43 51 x2) 52 x3) 53 x4) 49 1))), (q1, .inr (12, [.ref q42, w6, w7, w8, w9, w10, w11, .ref q46, .ref q47, w14, w15, w16, w17, w18, w19, w20, w21, w22, w23, w24, w25, w26, w27, w28, w29, w30, w31, w32, w33, w34, w35, w36, w37, w38, w39, w40, w41]))] H := hP
  have hD : va_D A [(q47, .inl (g.2 0, 8, .inl (upd f49 1 1))), (q46, .inl (g.2 0, 8, .inl (upd f49 1 x3))), (q42, .inl (g.2 0, 497, .inl (upd (upd (upd (upd f43 51 x2) 52 x3) 53 x4) 49 1))), (q1, .inr (12, [.ref q42, w6, w7, w8, w9, w10, w11, .ref q46, .ref q47, w14, w15, w16, w17, w18, w19, w20, w21, w22, w23, w24, w25, w26, w27, w28, w29, w30, w31, w32, w33, w34, w35, w36, w37, w38, w39, w40, w41]))] := hD
  refine lv_if_ne (tgt := 98) hx hb dX10_adds_91 (by decide) (fun h => absurd h (by decide)) (fun _ => ?_)
  refine lv_iconst (v := 1) hx hb dX10_adds_94 (by decide) ?_
  refine lv_goto (tgt := 99) hx hb dX10_adds_95 (by decide) ?_
  exact x_zret hx hb hr rfl rfl hlocks hP hD hS hAe hsz (Nat.le_of_ble_eq_true rfl) (Nat.le_of_ble_eq_true rfl) (fun _ => 0) [0, 1, 2, 3] (by decide) rfl dX10_adds_99

set_option maxHeartbeats 4000000 in
set_option maxRecDepth 100000 in
theorem c254_X10_added (l : Launch) (g : gG) (q1 q48 q49 q54 q55 q71 : Nat) (x2 x3 x4 : Int32) (w12 w14 w17 w20 w21 w22 w23 w24 w25 w26 w27 w28 w29 w30 w31 w32 w33 w34 w35 w36 w37 w38 w39 w40 w41 w42 w43 w44 w45 w46 w47 : Value) (f50 : Nat → Int32) (f51 : Nat → Int32) (hf52 : f50 49 = 0) (hf53 : f50 50 = 0) (hf56 : f50 0 = 0) (hf57 : f51 0 = 0) (hf58 : f50 98 = 0) (hf59 : f51 2 = 0) (hf60 : f50 147 = 0) (hf61 : f51 3 = 0) (hf62 : f50 196 = 0) (hf63 : f51 4 = 0) (hf64 : f50 245 = 0) (hf65 : f51 5 = 0) (hf66 : f50 294 = 0) (hf67 : f51 6 = 0) (hf68 : f50 343 = 0) (hf69 : f51 7 = 0) (hf70 : f50 392 = 0) (h5 : (0 : Int32) ≤ x2) (h6 : x2 ≤ 99) (h7 : (1 : Int32) ≤ x3) (h8 : x3 ≤ 16) (h9 : (1 : Int32) ≤ x4) (h10 : x4 ≤ 9) (sz : Nat) : Met l yX10_added [Cond.code yX10_added cX10_added 6 (some .int)] ({ frames := 5, cells := 0, slots := 0, locals := 118 } : Room) (va_Pc [.ref q1, .int 1, .int 0, .int x2, .int x3, .int x4] (PX g sz [(q71, .inl (g.2 0, 3976, .inl f51)), (q55, .inl (g.2 0, 8, .inl f51)), (q54, .inl (g.2 0, 8, .inl f51)), (q49, .inl (g.2 0, 497, .inl f51)), (q48, .inl (g.2 0, 497, .inl f50)), (q1, .inr (12, [.ref q48, w12, .ref q49, w14, .ref q71, .int 0, w17, .ref q54, .ref q55, w20, w21, w22, w23, w24, w25, w26, w27, w28, w29, w30, w31, w32, w33, w34, w35, w36, w37, w38, w39, w40, w41, w42, w43, w44, w45, w46, w47]))])) (QI g [(q71, .inl (g.2 0, 3976, .inl f51)), (q55, .inl (g.2 0, 8, .inl f51)), (q54, .inl (g.2 0, 8, .inl f51)), (q49, .inl (g.2 0, 497, .inl f51)), (q48, .inl (g.2 0, 497, .inl f50)), (q1, .inr (12, [.ref q48, w12, .ref q49, w14, .ref q71, .int 0, w17, .ref q54, .ref q55, w20, w21, w22, w23, w24, w25, w26, w27, w28, w29, w30, w31, w32, w33, w34, w35, w36, w37, w38, w39, w40, w41, w42, w43, w44, w45, w46, w47]))] sz 1 (fun _ => [(q55, .inl (g.2 0, 8, .inl (upd f51 1 1))), (q54, .inl (g.2 0, 8, .inl (upd f51 1 x3))), (q71, .inl (g.2 0, 3976, .inl (cpF 497 (cpF 497 f50 f51) f51))), (q49, .inl (g.2 0, 497, .inl (cpF 497 f50 f51))), (q48, .inl (g.2 0, 497, .inl (upd (upd (upd (upd f50 51 x2) 52 x3) 53 x4) 49 1))), (q1, .inr (12, [.ref q48, w12, .ref q49, w14, .ref q71, .int 1, .int 0, .ref q54, .ref q55, w20, w21, w22, w23, w24, w25, w26, w27, w28, w29, w30, w31, w32, w33, w34, w35, w36, w37, w38, w39, w40, w41, w42, w43, w44, w45, w46, w47]))])) 0 0 (va_A [(q71, .inl (g.2 0, 3976, .inl f51)), (q55, .inl (g.2 0, 8, .inl f51)), (q54, .inl (g.2 0, 8, .inl f51)), (q49, .inl (g.2 0, 497, .inl f51)), (q48, .inl (g.2 0, 497, .inl f50)), (q1, .inr (12, [.ref q48, w12, .ref q49, w14, .ref q71, .int 0, w17, .ref q54, .ref q55, w20, w21, w22, w23, w24, w25, w26, w27, w28, w29, w30, w31, w32, w33, w34, w35, w36, w37, w38, w39, w40, w41, w42, w43, w44, w45, w46, w47]))] sz) := by
  refine ofN (by decide) (Nat.le_of_ble_eq_true rfl) rfl ?_
  intro p e s m args below meth c A ls hAe hsz hx hb hml hr hlocks hin hown hE hP hD hA hS hl
  have hown : s.vm.findClass RX10 = some m.cls := hown
  refine lv_aload_n hx hb dX10_added_0 rfl (lv_at hl 0 rfl) ?_
  refine lv_iload_n hx hb dX10_added_1 rfl (lv_at hl 1 rfl) ?_
  refine g0_i (rS (rest := [.ref q1]) hx hb hml hown hE hP hD (c94_X10_isPattern l g 1 (by decide) (by decide) s.heap.size) (kS_X10_isPattern hE (e1428 hE) rfl rfl ⟨(Nat.le_of_ble_eq_true rfl), (Nat.le_of_ble_eq_true rfl)⟩) [] rfl (by decide) rfl hl.1 rfl (lv_room (Nat.le_of_ble_eq_true rfl)) dX10_added_2 ⟨(Nat.le_of_ble_eq_true rfl), (Nat.le_of_ble_eq_true rfl)⟩) hP hD hS hA (fun u9 H locs hP hS => ?_)
  refine lv_if_ne (tgt := 12) hx hb dX10_added_5 (by decide) (fun _ => ?_) (fun h => absurd h (by decide))
  refine lv_iload_n hx hb dX10_added_12 rfl (lv_at hl 1 rfl) ?_
  refine lv_iload_n hx hb dX10_added_13 rfl (lv_at hl 2 rfl) ?_
  refine lv_iload_n hx hb dX10_added_14 rfl (lv_at hl 3 rfl) ?_
  refine lv_iload hx hb dX10_added_15 (lv_at hl 4 rfl) ?_
  refine lv_iload hx hb dX10_added_17 (lv_at hl 5 rfl) ?_
  refine g0_i (rS (rest := [.ref q1]) hx hb hml hown hE hP hD (c246_X10_isRanged l g x2 x3 x4 h5 h6 h7 h8 h9 h10 H.size) (kS_X10_isRanged hE (e1434 hE) rfl rfl ⟨(Nat.le_of_ble_eq_true rfl), (Nat.le_of_ble_eq_true rfl)⟩) [] rfl (by decide) rfl hl.1 rfl (lv_room (Nat.le_of_ble_eq_true rfl)) dX10_added_19 ⟨(Nat.le_of_ble_eq_true rfl), (Nat.le_of_ble_eq_true rfl)⟩) hP hD hS hA (fun u9 H locs hP hS => ?_)
  refine lv_if_ne (tgt := 29) hx hb dX10_added_22 (by decide) (fun _ => ?_) (fun h => absurd h (by decide))
  refine lv_iconst (v := 0) hx hb dX10_added_29 (by decide) ?_
  refine pf_RX10_86 (ws' := [(q71, .inl (g.2 0, 3976, .inl f51)), (q55, .inl (g.2 0, 8, .inl f51)), (q54, .inl (g.2 0, 8, .inl f51)), (q49, .inl (g.2 0, 497, .inl f51)), (q48, .inl (g.2 0, 497, .inl f50)), (q1, .inr (12, [.ref q48, w12, .ref q49, w14, .ref q71, .int 0, .int 0, .ref q54, .ref q55, w20, w21, w22, w23, w24, w25, w26, w27, w28, w29, w30, w31, w32, w33, w34, w35, w36, w37, w38, w39, w40, w41, w42, w43, w44, w45, w46, w47]))]) hx hb hown hE hP hD hS 5 rfl rfl rfl (Nat.le_of_ble_eq_true rfl) dX10_added_30 rfl (fun H locs hP hD hS => ?_)
  refine lv_aload_n hx hb dX10_added_33 rfl (lv_at hl 0 rfl) ?_
  refine gf_RX10_86 hx hb hown hE hP 5 rfl rfl dX10_added_34 ?_
  refine lv_if_le (tgt := 42) hx hb dX10_added_37 (by decide) (fun _ => ?_) (fun h => absurd (by decide) h)
  refine lv_aload_n hx hb dX10_added_42 rfl (lv_at hl 0 rfl) ?_
  refine g_v (wr := [(q71, .inl (g.2 0, 3976, .inl f51)), (q55, .inl (g.2 0, 8, .inl f51)), (q54, .inl (g.2 0, 8, .inl f51))]) (rV (rest := []) hx hb hml hown hE hP hD 5 rfl rfl (c198_X10_putAside l g q1 q49 q48 w12 w14 (.ref q71) (.int 0) (.int 0) (.ref q54) (.ref q55) w20 w21 w22 w23 w24 w25 w26 w27 w28 w29 w30 w31 w32 w33 w34 w35 w36 w37 w38 w39 w40 w41 w42 w43 w44 w45 w46 w47 f50 f51 H.size) (kV_X10_putAside hE (e1437 hE) rfl rfl ⟨(Nat.le_of_ble_eq_true rfl), (Nat.le_of_ble_eq_true rfl)⟩) [3, 4, 5] rfl (by decide) rfl hl.1 rfl (lv_room (Nat.le_of_ble_eq_true rfl)) dX10_added_43 ⟨(Nat.le_of_ble_eq_true rfl), (Nat.le_of_ble_eq_true rfl)⟩) hP hD hS hA [3, 4, 5] [0, 1, 2] rfl rfl (by decide) (by decide) (fun u3 H locs hP hD hS => ?_)
  have hP : va_P g.1 vwCl [(q71, .inl (g.2 0, 3976, .inl f51)), (q55, .inl (g.2 0, 8, .inl f51)), (q54, .inl (g.2 0, 8, .inl f51)), (q49, .inl (g.2 0, 497, .inl (cpF 497 f50 f51))), (q48, .inl (g.2 0, 497, .inl f50)), (q1, .inr (12, [.ref q48, w12, .ref q49, w14, .ref q71, .int 0, .int 0, .ref q54, .ref q55, w20, w21, w22, w23, w24, w25, w26, w27, w28, w29, w30, w31, w32, w33, w34, w35, w36, w37, w38, w39, w40, w41, w42, w43, w44, w45, w46, w47]))] H := hP
  have hD : va_D A [(q71, .inl (g.2 0, 3976, .inl f51)), (q55, .inl (g.2 0, 8, .inl f51)), (q54, .inl (g.2 0, 8, .inl f51)), (q49, .inl (g.2 0, 497, .inl (cpF 497 f50 f51))), (q48, .inl (g.2 0, 497, .inl f50)), (q1, .inr (12, [.ref q48, w12, .ref q49, w14, .ref q71, .int 0, .int 0, .ref q54, .ref q55, w20, w21, w22, w23, w24, w25, w26, w27, w28, w29, w30, w31, w32, w33, w34, w35, w36, w37, w38, w39, w40, w41, w42, w43, w44, w45, w46, w47]))] := hD
  refine lv_aload_n hx hb dX10_added_46 rfl (lv_at hl 0 rfl) ?_
  refine lv_iload_n hx hb dX10_added_47 rfl (lv_at hl 1 rfl) ?_
  refine lv_iload_n hx hb dX10_added_48 rfl (lv_at hl 2 rfl) ?_
  refine lv_iload_n hx hb dX10_added_49 rfl (lv_at hl 3 rfl) ?_
  refine lv_iload hx hb dX10_added_50 (lv_at hl 4 rfl) ?_
  refine lv_iload hx hb dX10_added_52 (lv_at hl 5 rfl) ?_
  refine g_i (wr := [(q71, .inl (g.2 0, 3976, .inl f51)), (q49, .inl (g.2 0, 497, .inl (cpF 497 f50 f51)))]) (rV (rest := []) hx hb hml hown hE hP hD 5 rfl rfl (c253_X10_adds l g q1 q48 q54 q55 x2 x3 x4 w12 (.ref q49) w14 (.ref q71) (.int 0) (.int 0) w20 w21 w22 w23 w24 w25 w26 w27 w28 w29 w30 w31 w32 w33 w34 w35 w36 w37 w38 w39 w40 w41 w42 w43 w44 w45 w46 w47 f50 f51 (hf52) (hf53) (hf56) (hf57) (hf58) (hf59) (hf60) (hf61) (hf62) (hf63) (hf64) (hf65) (hf66) (hf67) (hf68) (hf69) (hf70) (i_lele h8 (by decide)) (i_lele h8 (by decide)) H.size) (kV_X10_adds hE (e1441 hE) rfl rfl ⟨(Nat.le_of_ble_eq_true rfl), (Nat.le_of_ble_eq_true rfl)⟩) [1, 2, 4, 5] rfl (by decide) rfl hl.1 rfl (lv_room (Nat.le_of_ble_eq_true rfl)) dX10_added_54 ⟨(Nat.le_of_ble_eq_true rfl), (Nat.le_of_ble_eq_true rfl)⟩) hP hD hS hA [1, 2, 4, 5] [0, 3] rfl rfl (by decide) (by decide) (fun u4 H locs hP hD hS => ?_)
  have hP : va_P g.1 vwCl [(q71, .inl (g.2 0, 3976, .inl f51)), (q49, .inl (g.2 0, 497, .inl (cpF 497 f50 f51))), (q55, .inl (g.2 0, 8, .inl (upd f51 1 1))), (q54, .inl (g.2 0, 8, .inl (upd f51 1 x3))), (q48, .inl (g.2 0, 497, .inl (upd (upd (upd (upd f50 51 x2) 52 x3) 53 x4) 49 1))), (q1, .inr (12, [.ref q48, w12, .ref q49, w14, .ref q71, .int 0, .int 0, .ref q54, .ref q55, w20, w21, w22, w23, w24, w25, w26, w27, w28, w29, w30, w31, w32, w33, w34, w35, w36, w37, w38, w39, w40, w41, w42, w43, w44, w45, w46, w47]))] H := hP
  have hD : va_D A [(q71, .inl (g.2 0, 3976, .inl f51)), (q49, .inl (g.2 0, 497, .inl (cpF 497 f50 f51))), (q55, .inl (g.2 0, 8, .inl (upd f51 1 1))), (q54, .inl (g.2 0, 8, .inl (upd f51 1 x3))), (q48, .inl (g.2 0, 497, .inl (upd (upd (upd (upd f50 51 x2) 52 x3) 53 x4) 49 1))), (q1, .inr (12, [.ref q48, w12, .ref q49, w14, .ref q71, .int 0, .int 0, .ref q54, .ref q55, w20, w21, w22, w23, w24, w25, w26, w27, w28, w29, w30, w31, w32, w33, w34, w35, w36, w37, w38, w39, w40, w41, w42, w43, w44, w45, w46, w47]))] := hD
  refine lv_if_ne (tgt := 70) hx hb dX10_added_57 (by decide) (fun _ => ?_) (fun h => absurd h (by decide))
  refine lv_aload_n hx hb dX10_added_70 rfl (lv_at hl 0 rfl) ?_
  refine g_v (wr := [(q55, .inl (g.2 0, 8, .inl (upd f51 1 1))), (q54, .inl (g.2 0, 8, .inl (upd f51 1 x3))), (q48, .inl (g.2 0, 497, .inl (upd (upd (upd (upd f50 51 x2) 52 x3) 53 x4) 49 1)))]) (rV (rest := []) hx hb hml hown hE hP hD 5 rfl rfl (c220_X10_keep l g q1 q71 q49 (.ref q48) w12 w14 (.int 0) (.ref q54) (.ref q55) w20 w21 w22 w23 w24 w25 w26 w27 w28 w29 w30 w31 w32 w33 w34 w35 w36 w37 w38 w39 w40 w41 w42 w43 w44 w45 w46 w47 (cpF 497 f50 f51) f51 H.size) (kV_X10_keep hE (e1478 hE) rfl rfl ⟨(Nat.le_of_ble_eq_true rfl), (Nat.le_of_ble_eq_true rfl)⟩) [0, 1, 5] rfl (by decide) rfl hl.1 rfl (lv_room (Nat.le_of_ble_eq_true rfl)) dX10_added_71 ⟨(Nat.le_of_ble_eq_true rfl), (Nat.le_of_ble_eq_true rfl)⟩) hP hD hS hA [0, 1, 5] [2, 3, 4] rfl rfl (by decide) (by decide) (fun u5 H locs hP hD hS => ?_)
  have hP : va_P g.1 vwCl [(q55, .inl (g.2 0, 8, .inl (upd f51 1 1))), (q54, .inl (g.2 0, 8, .inl (upd f51 1 x3))), (q48, .inl (g.2 0, 497, .inl (upd (upd (upd (upd f50 51 x2) 52 x3) 53 x4) 49 1))), (q71, .inl (g.2 0, 3976, .inl (cpF 497 (cpF 497 f50 f51) f51))), (q49, .inl (g.2 0, 497, .inl (cpF 497 f50 f51))), (q1, .inr (12, [.ref q48, w12, .ref q49, w14, .ref q71, .int 1, .int 0, .ref q54, .ref q55, w20, w21, w22, w23, w24, w25, w26, w27, w28, w29, w30, w31, w32, w33, w34, w35, w36, w37, w38, w39, w40, w41, w42, w43, w44, w45, w46, w47]))] H := hP
  have hD : va_D A [(q55, .inl (g.2 0, 8, .inl (upd f51 1 1))), (q54, .inl (g.2 0, 8, .inl (upd f51 1 x3))), (q48, .inl (g.2 0, 497, .inl (upd (upd (upd (upd f50 51 x2) 52 x3) 53 x4) 49 1))), (q71, .inl (g.2 0, 3976, .inl (cpF 497 (cpF 497 f50 f51) f51))), (q49, .inl (g.2 0, 497, .inl (cpF 497 f50 f51))), (q1, .inr (12, [.ref q48, w12, .ref q49, w14, .ref q71, .int 1, .int 0, .ref q54, .ref q55, w20, w21, w22, w23, w24, w25, w26, w27, w28, w29, w30, w31, w32, w33, w34, w35, w36, w37, w38, w39, w40, w41, w42, w43, w44, w45, w46, w47]))] := hD
  refine lv_aload_n hx hb dX10_added_74 rfl (lv_at hl 0 rfl) ?_
  refine lv_iload_n hx hb dX10_added_75 rfl (lv_at hl 1 rfl) ?_
  refine g_i (wr := [(q55, .inl (g.2 0, 8, .inl (upd f51 1 1))), (q54, .inl (g.2 0, 8, .inl (upd f51 1 x3))), (q71, .inl (g.2 0, 3976, .inl (cpF 497 (cpF 497 f50 f51) f51))), (q49, .inl (g.2 0, 497, .inl (cpF 497 f50 f51)))]) (rV (rest := []) hx hb hml hown hE hP hD 5 rfl rfl (c248_X10_many l g q1 q48 w12 (.ref q49) w14 (.ref q71) (.int 1) (.int 0) (.ref q54) (.ref q55) w20 w21 w22 w23 w24 w25 w26 w27 w28 w29 w30 w31 w32 w33 w34 w35 w36 w37 w38 w39 w40 w41 w42 w43 w44 w45 w46 w47 (upd (upd (upd (upd f50 51 x2) 52 x3) 53 x4) 49 1) (pk_us) H.size) (kV_X10_many hE (e1456 hE) rfl rfl ⟨(Nat.le_of_ble_eq_true rfl), (Nat.le_of_ble_eq_true rfl)⟩) [2, 5] rfl (by decide) rfl hl.1 rfl (lv_room (Nat.le_of_ble_eq_true rfl)) dX10_added_76 ⟨(Nat.le_of_ble_eq_true rfl), (Nat.le_of_ble_eq_true rfl)⟩) hP hD hS hA [2, 5] [0, 1, 3, 4] rfl rfl (by decide) (by decide) (fun u6 H locs hP hD hS => ?_)
  have hP : va_P g.1 vwCl [(q55, .inl (g.2 0, 8, .inl (upd f51 1 1))), (q54, .inl (g.2 0, 8, .inl (upd f51 1 x3))), (q71, .inl (g.2 0, 3976, .inl (cpF 497 (cpF 497 f50 f51) f51))), (q49, .inl (g.2 0, 497, .inl (cpF 497 f50 f51))), (q48, .inl (g.2 0, 497, .inl (upd (upd (upd (upd f50 51 x2) 52 x3) 53 x4) 49 1))), (q1, .inr (12, [.ref q48, w12, .ref q49, w14, .ref q71, .int 1, .int 0, .ref q54, .ref q55, w20, w21, w22, w23, w24, w25, w26, w27, w28, w29, w30, w31, w32, w33, w34, w35, w36, w37, w38, w39, w40, w41, w42, w43, w44, w45, w46, w47]))] H := hP
  have hD : va_D A [(q55, .inl (g.2 0, 8, .inl (upd f51 1 1))), (q54, .inl (g.2 0, 8, .inl (upd f51 1 x3))), (q71, .inl (g.2 0, 3976, .inl (cpF 497 (cpF 497 f50 f51) f51))), (q49, .inl (g.2 0, 497, .inl (cpF 497 f50 f51))), (q48, .inl (g.2 0, 497, .inl (upd (upd (upd (upd f50 51 x2) 52 x3) 53 x4) 49 1))), (q1, .inr (12, [.ref q48, w12, .ref q49, w14, .ref q71, .int 1, .int 0, .ref q54, .ref q55, w20, w21, w22, w23, w24, w25, w26, w27, w28, w29, w30, w31, w32, w33, w34, w35, w36, w37, w38, w39, w40, w41, w42, w43, w44, w45, w46, w47]))] := hD
  exact x_zret hx hb hr rfl rfl hlocks hP hD hS hAe hsz (Nat.le_of_ble_eq_true rfl) (Nat.le_of_ble_eq_true rfl) (fun _ => 0) [0, 1, 2, 3, 4, 5] (by decide) rfl dX10_added_79

set_option maxHeartbeats 4000000 in
set_option maxRecDepth 100000 in
theorem c255_X10_addNote (l : Launch) (g : gG) (q1 q48 q49 q54 q55 q71 : Nat) (x2 x3 x4 : Int32) (w6 w8 w11 w14 w15 w16 w17 w18 w19 w20 w21 w22 w23 w24 w25 w26 w27 w28 w29 w30 w31 w32 w33 w34 w35 w36 w37 w38 w39 w40 w41 : Value) (f50 : Nat → Int32) (f51 : Nat → Int32) (hf52 : f50 49 = 0) (hf53 : f50 50 = 0) (hf56 : f50 0 = 0) (hf57 : f51 0 = 0) (hf58 : f50 98 = 0) (hf59 : f51 2 = 0) (hf60 : f50 147 = 0) (hf61 : f51 3 = 0) (hf62 : f50 196 = 0) (hf63 : f51 4 = 0) (hf64 : f50 245 = 0) (hf65 : f51 5 = 0) (hf66 : f50 294 = 0) (hf67 : f51 6 = 0) (hf68 : f50 343 = 0) (hf69 : f51 7 = 0) (hf70 : f50 392 = 0) (h42 : (0 : Int32) ≤ x2) (h43 : x2 ≤ 99) (h44 : (1 : Int32) ≤ x3) (h45 : x3 ≤ 16) (h46 : (1 : Int32) ≤ x4) (h47 : x4 ≤ 9) (sz : Nat) : Met l yX10_addNote [Cond.code yX10_addNote cX10_addNote 5 (some .int)] ({ frames := 6, cells := 0, slots := 0, locals := 143 } : Room) (va_Pc [.ref q1, .int 1, .int x2, .int x3, .int x4] (PX g sz [(q71, .inl (g.2 0, 3976, .inl f51)), (q55, .inl (g.2 0, 8, .inl f51)), (q54, .inl (g.2 0, 8, .inl f51)), (q49, .inl (g.2 0, 497, .inl f51)), (q48, .inl (g.2 0, 497, .inl f50)), (q1, .inr (12, [.ref q48, w6, .ref q49, w8, .ref q71, .int 0, w11, .ref q54, .ref q55, w14, w15, w16, w17, w18, w19, w20, w21, w22, w23, w24, w25, w26, w27, w28, w29, w30, w31, w32, w33, w34, w35, w36, w37, w38, w39, w40, w41]))])) (QI g [(q71, .inl (g.2 0, 3976, .inl f51)), (q55, .inl (g.2 0, 8, .inl f51)), (q54, .inl (g.2 0, 8, .inl f51)), (q49, .inl (g.2 0, 497, .inl f51)), (q48, .inl (g.2 0, 497, .inl f50)), (q1, .inr (12, [.ref q48, w6, .ref q49, w8, .ref q71, .int 0, w11, .ref q54, .ref q55, w14, w15, w16, w17, w18, w19, w20, w21, w22, w23, w24, w25, w26, w27, w28, w29, w30, w31, w32, w33, w34, w35, w36, w37, w38, w39, w40, w41]))] sz 1 (fun _ => [(q1, .inr (12, [.ref q48, w6, .ref q49, w8, .ref q71, .int 1, .int 0, .ref q54, .ref q55, w14, w15, w16, w17, w18, w19, w20, w21, w22, w23, w24, w25, w26, w27, w28, w29, w30, w31, w32, w33, w34, w35, w36, w37, w38, w39, w40, w41]))])) 0 0 (va_A [(q71, .inl (g.2 0, 3976, .inl f51)), (q55, .inl (g.2 0, 8, .inl f51)), (q54, .inl (g.2 0, 8, .inl f51)), (q49, .inl (g.2 0, 497, .inl f51)), (q48, .inl (g.2 0, 497, .inl f50)), (q1, .inr (12, [.ref q48, w6, .ref q49, w8, .ref q71, .int 0, w11, .ref q54, .ref q55, w14, w15, w16, w17, w18, w19, w20, w21, w22, w23, w24, w25, w26, w27, w28, w29, w30, w31, w32, w33, w34, w35, w36, w37, w38, w39, w40, w41]))] sz) := by
  refine ofN (by decide) (Nat.le_of_ble_eq_true rfl) rfl ?_
  intro p e s m args below meth c A ls hAe hsz hx hb hml hr hlocks hin hown hE hP hD hA hS hl
  have hown : s.vm.findClass RX10 = some m.cls := hown
  refine lv_aload_n hx hb dX10_addNote_0 rfl (lv_at hl 0 rfl) ?_
  refine lv_iload_n hx hb dX10_addNote_1 rfl (lv_at hl 1 rfl) ?_
  refine lv_iconst (v := 0) hx hb dX10_addNote_2 (by decide) ?_
  refine lv_iload_n hx hb dX10_addNote_3 rfl (lv_at hl 2 rfl) ?_
  refine lv_iload_n hx hb dX10_addNote_4 rfl (lv_at hl 3 rfl) ?_
  refine lv_iload hx hb dX10_addNote_5 (lv_at hl 4 rfl) ?_
  refine g_i (wr := []) (rV (rest := []) hx hb hml hown hE hP hD 5 rfl rfl (c254_X10_added l g q1 q48 q49 q54 q55 q71 x2 x3 x4 w6 w8 w11 w14 w15 w16 w17 w18 w19 w20 w21 w22 w23 w24 w25 w26 w27 w28 w29 w30 w31 w32 w33 w34 w35 w36 w37 w38 w39 w40 w41 f50 f51 (hf52) (hf53) (hf56) (hf57) (hf58) (hf59) (hf60) (hf61) (hf62) (hf63) (hf64) (hf65) (hf66) (hf67) (hf68) (hf69) (hf70) h42 h43 h44 h45 h46 h47 s.heap.size) (kV_X10_added hE (e1424 hE) rfl rfl ⟨(Nat.le_of_ble_eq_true rfl), (Nat.le_of_ble_eq_true rfl)⟩) [0, 1, 2, 3, 4, 5] rfl (by decide) rfl hl.1 rfl (lv_room (Nat.le_of_ble_eq_true rfl)) dX10_addNote_7 ⟨(Nat.le_of_ble_eq_true rfl), (Nat.le_of_ble_eq_true rfl)⟩) hP hD hS hA [0, 1, 2, 3, 4, 5] [] rfl rfl (by decide) (by decide) (fun u1 H locs hP hD hS => ?_)
  have hP : va_P g.1 vwCl [(q55, .inl (g.2 0, 8, .inl (upd f51 1 1))), (q54, .inl (g.2 0, 8, .inl (upd f51 1 x3))), (q71, .inl (g.2 0, 3976, .inl (cpF 497 (cpF 497 f50 f51) f51))), (q49, .inl (g.2 0, 497, .inl (cpF 497 f50 f51))), (q48, .inl (g.2 0, 497, .inl (upd (upd (upd (upd f50 51 x2) 52 x3) 53 x4) 49 1))), (q1, .inr (12, [.ref q48, w6, .ref q49, w8, .ref q71, .int 1, .int 0, .ref q54, .ref q55, w14, w15, w16, w17, w18, w19, w20, w21, w22, w23, w24, w25, w26, w27, w28, w29, w30, w31, w32, w33, w34, w35, w36, w37, w38, w39, w40, w41]))] H := hP
  have hD : va_D A [(q55, .inl (g.2 0, 8, .inl (upd f51 1 1))), (q54, .inl (g.2 0, 8, .inl (upd f51 1 x3))), (q71, .inl (g.2 0, 3976, .inl (cpF 497 (cpF 497 f50 f51) f51))), (q49, .inl (g.2 0, 497, .inl (cpF 497 f50 f51))), (q48, .inl (g.2 0, 497, .inl (upd (upd (upd (upd f50 51 x2) 52 x3) 53 x4) 49 1))), (q1, .inr (12, [.ref q48, w6, .ref q49, w8, .ref q71, .int 1, .int 0, .ref q54, .ref q55, w14, w15, w16, w17, w18, w19, w20, w21, w22, w23, w24, w25, w26, w27, w28, w29, w30, w31, w32, w33, w34, w35, w36, w37, w38, w39, w40, w41]))] := hD
  exact x_zret hx hb hr rfl rfl hlocks hP hD hS hAe hsz (Nat.le_of_ble_eq_true rfl) (Nat.le_of_ble_eq_true rfl) (fun _ => 0) [5] (by decide) rfl dX10_addNote_10

set_option maxHeartbeats 4000000 in
set_option maxRecDepth 100000 in
theorem c256_X9_putAt (l : Launch) (g : gG) (q1 : Nat) (f2 : Nat → Int32) (hf3 : f2 96 = 0) (sz : Nat) : Met l yX9_putAt [Cond.code yX9_putAt cX9_putAt 3 none] ({ frames := 0, cells := 0, slots := 0, locals := 0 } : Room) (va_Pc [.ref q1, .int 96, .int 0] (PX g sz [(q1, .inl (g.2 0, 384, .inl f2))])) (QV g [(q1, .inl (g.2 0, 384, .inl f2))] sz (fun _ => [(q1, .inl (g.2 0, 384, .inl f2))])) 0 0 (va_A [(q1, .inl (g.2 0, 384, .inl f2))] sz) := by
  refine ofN (by decide) (Nat.le_of_ble_eq_true rfl) rfl ?_
  intro p e s m args below meth c A ls hAe hsz hx hb hml hr hlocks hin hown hE hP hD hA hS hl
  have hown : s.vm.findClass RX9 = some m.cls := hown
  refine lv_iload_n hx hb dX9_putAt_0 rfl (lv_at hl 1 rfl) ?_
  refine lv_if_lt (tgt := 14) hx hb dX9_putAt_1 (by decide) (fun h => absurd h (by decide)) (fun _ => ?_)
  refine lv_iload_n hx hb dX9_putAt_4 rfl (lv_at hl 1 rfl) ?_
  refine lv_aload_n hx hb dX9_putAt_5 rfl (lv_at hl 0 rfl) ?_
  refine x_aleni (v := 384) hx hb hE hP 0 rfl rfl dX9_putAt_6 ?_
  refine lv_icmp_ge (tgt := 14) hx hb dX9_putAt_7 (by decide) (fun h => absurd h (by decide)) (fun _ => ?_)
  refine lv_aload_n hx hb dX9_putAt_10 rfl (lv_at hl 0 rfl) ?_
  refine lv_iload_n hx hb dX9_putAt_11 rfl (lv_at hl 1 rfl) ?_
  refine lv_iload_n hx hb dX9_putAt_12 rfl (lv_at hl 2 rfl) ?_
  refine x_iast_same hx hb hE hP hD hS 0 rfl 96 (x_in (by decide)) (by decide) hf3 dX9_putAt_13 (fun H locs hP hD hS => ?_)
  exact x_vret hx hb hr hlocks hP hD hS hAe hsz (Nat.le_of_ble_eq_true rfl) (Nat.le_of_ble_eq_true rfl) (fun _ => 0) [0] (by decide) rfl dX9_putAt_14

set_option maxHeartbeats 4000000 in
set_option maxRecDepth 100000 in
theorem c257_X9_putAt (l : Launch) (g : gG) (q1 : Nat) (x2 : Int32) (f3 : Nat → Int32) (sz : Nat) : Met l yX9_putAt [Cond.code yX9_putAt cX9_putAt 3 none] ({ frames := 0, cells := 0, slots := 0, locals := 0 } : Room) (va_Pc [.ref q1, .int 97, .int x2] (PX g sz [(q1, .inl (g.2 0, 384, .inl f3))])) (QV g [(q1, .inl (g.2 0, 384, .inl f3))] sz (fun _ => [(q1, .inl (g.2 0, 384, .inl (upd f3 97 x2)))])) 0 0 (va_A [(q1, .inl (g.2 0, 384, .inl f3))] sz) := by
  refine ofN (by decide) (Nat.le_of_ble_eq_true rfl) rfl ?_
  intro p e s m args below meth c A ls hAe hsz hx hb hml hr hlocks hin hown hE hP hD hA hS hl
  have hown : s.vm.findClass RX9 = some m.cls := hown
  refine lv_iload_n hx hb dX9_putAt_0 rfl (lv_at hl 1 rfl) ?_
  refine lv_if_lt (tgt := 14) hx hb dX9_putAt_1 (by decide) (fun h => absurd h (by decide)) (fun _ => ?_)
  refine lv_iload_n hx hb dX9_putAt_4 rfl (lv_at hl 1 rfl) ?_
  refine lv_aload_n hx hb dX9_putAt_5 rfl (lv_at hl 0 rfl) ?_
  refine x_aleni (v := 384) hx hb hE hP 0 rfl rfl dX9_putAt_6 ?_
  refine lv_icmp_ge (tgt := 14) hx hb dX9_putAt_7 (by decide) (fun h => absurd h (by decide)) (fun _ => ?_)
  refine lv_aload_n hx hb dX9_putAt_10 rfl (lv_at hl 0 rfl) ?_
  refine lv_iload_n hx hb dX9_putAt_11 rfl (lv_at hl 1 rfl) ?_
  refine lv_iload_n hx hb dX9_putAt_12 rfl (lv_at hl 2 rfl) ?_
  refine x_iast (ws' := [(q1, .inl (g.2 0, 384, .inl (upd f3 97 x2)))]) hx hb hE hP hD hS 0 rfl 97 (x_in (by decide)) (by decide) dX9_putAt_13 rfl (fun H locs hP hD hS => ?_)
  exact x_vret hx hb hr hlocks hP hD hS hAe hsz (Nat.le_of_ble_eq_true rfl) (Nat.le_of_ble_eq_true rfl) (fun _ => 0) [0] (by decide) rfl dX9_putAt_14

set_option maxHeartbeats 4000000 in
set_option maxRecDepth 100000 in
theorem c258_X9_putAt (l : Launch) (g : gG) (q1 : Nat) (x2 : Int32) (f3 : Nat → Int32) (sz : Nat) : Met l yX9_putAt [Cond.code yX9_putAt cX9_putAt 3 none] ({ frames := 0, cells := 0, slots := 0, locals := 0 } : Room) (va_Pc [.ref q1, .int 98, .int x2] (PX g sz [(q1, .inl (g.2 0, 384, .inl f3))])) (QV g [(q1, .inl (g.2 0, 384, .inl f3))] sz (fun _ => [(q1, .inl (g.2 0, 384, .inl (upd f3 98 x2)))])) 0 0 (va_A [(q1, .inl (g.2 0, 384, .inl f3))] sz) := by
  refine ofN (by decide) (Nat.le_of_ble_eq_true rfl) rfl ?_
  intro p e s m args below meth c A ls hAe hsz hx hb hml hr hlocks hin hown hE hP hD hA hS hl
  have hown : s.vm.findClass RX9 = some m.cls := hown
  refine lv_iload_n hx hb dX9_putAt_0 rfl (lv_at hl 1 rfl) ?_
  refine lv_if_lt (tgt := 14) hx hb dX9_putAt_1 (by decide) (fun h => absurd h (by decide)) (fun _ => ?_)
  refine lv_iload_n hx hb dX9_putAt_4 rfl (lv_at hl 1 rfl) ?_
  refine lv_aload_n hx hb dX9_putAt_5 rfl (lv_at hl 0 rfl) ?_
  refine x_aleni (v := 384) hx hb hE hP 0 rfl rfl dX9_putAt_6 ?_
  refine lv_icmp_ge (tgt := 14) hx hb dX9_putAt_7 (by decide) (fun h => absurd h (by decide)) (fun _ => ?_)
  refine lv_aload_n hx hb dX9_putAt_10 rfl (lv_at hl 0 rfl) ?_
  refine lv_iload_n hx hb dX9_putAt_11 rfl (lv_at hl 1 rfl) ?_
  refine lv_iload_n hx hb dX9_putAt_12 rfl (lv_at hl 2 rfl) ?_
  refine x_iast (ws' := [(q1, .inl (g.2 0, 384, .inl (upd f3 98 x2)))]) hx hb hE hP hD hS 0 rfl 98 (x_in (by decide)) (by decide) dX9_putAt_13 rfl (fun H locs hP hD hS => ?_)
  exact x_vret hx hb hr hlocks hP hD hS hAe hsz (Nat.le_of_ble_eq_true rfl) (Nat.le_of_ble_eq_true rfl) (fun _ => 0) [0] (by decide) rfl dX9_putAt_14

set_option maxHeartbeats 4000000 in
set_option maxRecDepth 100000 in
theorem c259_X9_putAt (l : Launch) (g : gG) (q1 : Nat) (x2 : Int32) (f3 : Nat → Int32) (sz : Nat) : Met l yX9_putAt [Cond.code yX9_putAt cX9_putAt 3 none] ({ frames := 0, cells := 0, slots := 0, locals := 0 } : Room) (va_Pc [.ref q1, .int 99, .int x2] (PX g sz [(q1, .inl (g.2 0, 384, .inl f3))])) (QV g [(q1, .inl (g.2 0, 384, .inl f3))] sz (fun _ => [(q1, .inl (g.2 0, 384, .inl (upd f3 99 x2)))])) 0 0 (va_A [(q1, .inl (g.2 0, 384, .inl f3))] sz) := by
  refine ofN (by decide) (Nat.le_of_ble_eq_true rfl) rfl ?_
  intro p e s m args below meth c A ls hAe hsz hx hb hml hr hlocks hin hown hE hP hD hA hS hl
  have hown : s.vm.findClass RX9 = some m.cls := hown
  refine lv_iload_n hx hb dX9_putAt_0 rfl (lv_at hl 1 rfl) ?_
  refine lv_if_lt (tgt := 14) hx hb dX9_putAt_1 (by decide) (fun h => absurd h (by decide)) (fun _ => ?_)
  refine lv_iload_n hx hb dX9_putAt_4 rfl (lv_at hl 1 rfl) ?_
  refine lv_aload_n hx hb dX9_putAt_5 rfl (lv_at hl 0 rfl) ?_
  refine x_aleni (v := 384) hx hb hE hP 0 rfl rfl dX9_putAt_6 ?_
  refine lv_icmp_ge (tgt := 14) hx hb dX9_putAt_7 (by decide) (fun h => absurd h (by decide)) (fun _ => ?_)
  refine lv_aload_n hx hb dX9_putAt_10 rfl (lv_at hl 0 rfl) ?_
  refine lv_iload_n hx hb dX9_putAt_11 rfl (lv_at hl 1 rfl) ?_
  refine lv_iload_n hx hb dX9_putAt_12 rfl (lv_at hl 2 rfl) ?_
  refine x_iast (ws' := [(q1, .inl (g.2 0, 384, .inl (upd f3 99 x2)))]) hx hb hE hP hD hS 0 rfl 99 (x_in (by decide)) (by decide) dX9_putAt_13 rfl (fun H locs hP hD hS => ?_)
  exact x_vret hx hb hr hlocks hP hD hS hAe hsz (Nat.le_of_ble_eq_true rfl) (Nat.le_of_ble_eq_true rfl) (fun _ => 0) [0] (by decide) rfl dX9_putAt_14

set_option maxHeartbeats 4000000 in
set_option maxRecDepth 100000 in
theorem c260_X3_putFigure (l : Launch) (g : gG) (q1 q4 : Nat) (w2 : Value) (f5 : Nat → Int32) (sz : Nat) : Met l yX3_putFigure [Cond.code yX3_putFigure cX3_putFigure 5 none] ({ frames := 0, cells := 0, slots := 0, locals := 0 } : Room) (va_Pc [.ref q1, .int 2, .int 0, .int 1] (PX g sz [(q4, .inl (g.2 0, 40, .inl f5)), (q1, .inr (5, [w2, .ref q4]))])) (QV g [(q4, .inl (g.2 0, 40, .inl f5)), (q1, .inr (5, [w2, .ref q4]))] sz (fun _ => [(q4, .inl (g.2 0, 40, .inl (upd f5 10 1))), (q1, .inr (5, [w2, .ref q4]))])) 0 0 (va_A [(q4, .inl (g.2 0, 40, .inl f5)), (q1, .inr (5, [w2, .ref q4]))] sz) := by
  refine ofN (by decide) (Nat.le_of_ble_eq_true rfl) rfl ?_
  intro p e s m args below meth c A ls hAe hsz hx hb hml hr hlocks hin hown hE hP hD hA hS hl
  have hown : s.vm.findClass RX3 = some m.cls := hown
  refine lv_iload_n hx hb dX3_putFigure_0 rfl (lv_at hl 1 rfl) ?_
  refine lv_iconst (v := 5) hx hb dX3_putFigure_1 (by decide) ?_
  refine x_imul (v := 10) hx hb dX3_putFigure_2 (by decide) ?_
  refine lv_iload_n hx hb dX3_putFigure_3 rfl (lv_at hl 2 rfl) ?_
  refine x_iadd (v := 10) hx hb dX3_putFigure_4 (by decide) ?_
  refine lv_istore (lv' := [(4, .int 10), (0, .ref q1), (1, .int 2), (2, .int 0), (3, .int 1)]) hx hb dX3_putFigure_5 hl (by decide) rfl (fun ls hl => ?_)
  refine lv_iload hx hb dX3_putFigure_7 (lv_at hl 0 rfl) ?_
  refine lv_if_lt (tgt := 30) hx hb dX3_putFigure_9 (by decide) (fun h => absurd h (by decide)) (fun _ => ?_)
  refine lv_iload hx hb dX3_putFigure_12 (lv_at hl 0 rfl) ?_
  refine lv_aload_n hx hb dX3_putFigure_14 rfl (lv_at hl 1 rfl) ?_
  refine gf_RX3_15 hx hb hown hE hP 1 rfl rfl dX3_putFigure_15 ?_
  refine x_aleni (v := 40) hx hb hE hP 0 rfl rfl dX3_putFigure_18 ?_
  refine lv_icmp_ge (tgt := 30) hx hb dX3_putFigure_19 (by decide) (fun h => absurd h (by decide)) (fun _ => ?_)
  refine lv_aload_n hx hb dX3_putFigure_22 rfl (lv_at hl 1 rfl) ?_
  refine gf_RX3_15 hx hb hown hE hP 1 rfl rfl dX3_putFigure_23 ?_
  refine lv_iload hx hb dX3_putFigure_26 (lv_at hl 0 rfl) ?_
  refine lv_iload_n hx hb dX3_putFigure_28 rfl (lv_at hl 4 rfl) ?_
  refine x_iast (ws' := [(q4, .inl (g.2 0, 40, .inl (upd f5 10 1))), (q1, .inr (5, [w2, .ref q4]))]) hx hb hE hP hD hS 0 rfl 10 (x_in (by decide)) (by decide) dX3_putFigure_29 rfl (fun H locs hP hD hS => ?_)
  exact x_vret hx hb hr hlocks hP hD hS hAe hsz (Nat.le_of_ble_eq_true rfl) (Nat.le_of_ble_eq_true rfl) (fun _ => 0) [0, 1] (by decide) rfl dX3_putFigure_30

set_option maxHeartbeats 4000000 in
set_option maxRecDepth 100000 in
theorem c261_X3_putItem (l : Launch) (g : gG) (q1 q7 q10 : Nat) (x2 x3 x4 : Int32) (f8 : Nat → Int32) (f11 : Nat → Int32) (hf9 : f8 10 = 0) (hf12 : f11 96 = 0) (sz : Nat) : Met l yX3_putItem [Cond.code yX3_putItem cX3_putItem 8 none] ({ frames := 1, cells := 0, slots := 0, locals := 24 } : Room) (va_Pc [.ref q1, .int 2, .int 0, .int x2, .int x3, .int x4] (PX g sz [(q10, .inl (g.2 0, 384, .inl f11)), (q7, .inl (g.2 0, 40, .inl f8)), (q1, .inr (5, [.ref q10, .ref q7]))])) (QV g [(q10, .inl (g.2 0, 384, .inl f11)), (q7, .inl (g.2 0, 40, .inl f8)), (q1, .inr (5, [.ref q10, .ref q7]))] sz (fun _ => [(q10, .inl (g.2 0, 384, .inl (upd (upd (upd f11 97 x2) 98 x3) 99 x4))), (q7, .inl (g.2 0, 40, .inl (upd f8 10 1))), (q1, .inr (5, [.ref q10, .ref q7]))])) 0 0 (va_A [(q10, .inl (g.2 0, 384, .inl f11)), (q7, .inl (g.2 0, 40, .inl f8)), (q1, .inr (5, [.ref q10, .ref q7]))] sz) := by
  refine ofN (by decide) (Nat.le_of_ble_eq_true rfl) rfl ?_
  intro p e s m args below meth c A ls hAe hsz hx hb hml hr hlocks hin hown hE hP hD hA hS hl
  have hown : s.vm.findClass RX3 = some m.cls := hown
  refine lv_aload_n hx hb dX3_putItem_0 rfl (lv_at hl 0 rfl) ?_
  refine lv_iload_n hx hb dX3_putItem_1 rfl (lv_at hl 1 rfl) ?_
  refine lv_iconst (v := 0) hx hb dX3_putItem_2 (by decide) ?_
  refine g_i (wr := [(q10, .inl (g.2 0, 384, .inl f11))]) (rV (rest := []) hx hb hml hown hE hP hD 2 rfl rfl (c152_X3_figure l g q1 q7 (.ref q10) f8 (hf9) s.heap.size) (kV_X3_figure hE (e343 hE) rfl rfl ⟨(Nat.le_of_ble_eq_true rfl), (Nat.le_of_ble_eq_true rfl)⟩) [1, 2] rfl (by decide) rfl hl.1 rfl (lv_room (Nat.le_of_ble_eq_true rfl)) dX3_putItem_3 ⟨(Nat.le_of_ble_eq_true rfl), (Nat.le_of_ble_eq_true rfl)⟩) hP hD hS hA [1, 2] [0] rfl rfl (by decide) (by decide) (fun u1 H locs hP hD hS => ?_)
  have hP : va_P g.1 vwCl [(q10, .inl (g.2 0, 384, .inl f11)), (q7, .inl (g.2 0, 40, .inl f8)), (q1, .inr (5, [.ref q10, .ref q7]))] H := hP
  have hD : va_D A [(q10, .inl (g.2 0, 384, .inl f11)), (q7, .inl (g.2 0, 40, .inl f8)), (q1, .inr (5, [.ref q10, .ref q7]))] := hD
  refine lv_istore (lv' := [(6, .int 0), (0, .ref q1), (1, .int 2), (2, .int 0), (3, .int x2), (4, .int x3), (5, .int x4)]) hx hb dX3_putItem_6 hl (by decide) rfl (fun ls hl => ?_)
  refine lv_iload_n hx hb dX3_putItem_8 rfl (lv_at hl 2 rfl) ?_
  refine lv_bipush (v := 12) hx hb dX3_putItem_9 (by decide) ?_
  refine x_imul (v := 24) hx hb dX3_putItem_11 (by decide) ?_
  refine lv_iload hx hb dX3_putItem_12 (lv_at hl 0 rfl) ?_
  refine x_iadd (v := 24) hx hb dX3_putItem_14 (by decide) ?_
  refine lv_iconst (v := 4) hx hb dX3_putItem_15 (by decide) ?_
  refine x_imul (v := 96) hx hb dX3_putItem_16 (by decide) ?_
  refine lv_istore (lv' := [(7, .int 96), (6, .int 0), (0, .ref q1), (1, .int 2), (2, .int 0), (3, .int x2), (4, .int x3), (5, .int x4)]) hx hb dX3_putItem_17 hl (by decide) rfl (fun ls hl => ?_)
  refine lv_aload_n hx hb dX3_putItem_19 rfl (lv_at hl 2 rfl) ?_
  refine gf_RX3_9 hx hb hown hE hP 2 rfl rfl dX3_putItem_20 ?_
  refine lv_iload hx hb dX3_putItem_23 (lv_at hl 0 rfl) ?_
  refine lv_iconst (v := 0) hx hb dX3_putItem_25 (by decide) ?_
  refine x_iadd (v := 96) hx hb dX3_putItem_26 (by decide) ?_
  refine lv_iload_n hx hb dX3_putItem_27 rfl (lv_at hl 4 rfl) ?_
  refine g_v (wr := [(q7, .inl (g.2 0, 40, .inl f8)), (q1, .inr (5, [.ref q10, .ref q7]))]) (rSN (rest := []) hx hb hml hown hE hP hD (c256_X9_putAt l g q10 f11 (hf12) H.size) (kSN_X9_putAt hE (e689 hE) rfl rfl ⟨(Nat.le_of_ble_eq_true rfl), (Nat.le_of_ble_eq_true rfl)⟩) [0] rfl (by decide) rfl hl.1 rfl (lv_room (Nat.le_of_ble_eq_true rfl)) dX3_putItem_28 ⟨(Nat.le_of_ble_eq_true rfl), (Nat.le_of_ble_eq_true rfl)⟩) hP hD hS hA [0] [1, 2] rfl rfl (by decide) (by decide) (fun u2 H locs hP hD hS => ?_)
  have hP : va_P g.1 vwCl [(q7, .inl (g.2 0, 40, .inl f8)), (q1, .inr (5, [.ref q10, .ref q7])), (q10, .inl (g.2 0, 384, .inl f11))] H := hP
  have hD : va_D A [(q7, .inl (g.2 0, 40, .inl f8)), (q1, .inr (5, [.ref q10, .ref q7])), (q10, .inl (g.2 0, 384, .inl f11))] := hD
  refine lv_aload_n hx hb dX3_putItem_31 rfl (lv_at hl 2 rfl) ?_
  refine gf_RX3_9 hx hb hown hE hP 1 rfl rfl dX3_putItem_32 ?_
  refine lv_iload hx hb dX3_putItem_35 (lv_at hl 0 rfl) ?_
  refine lv_iconst (v := 1) hx hb dX3_putItem_37 (by decide) ?_
  refine x_iadd (v := 97) hx hb dX3_putItem_38 (by decide) ?_
  refine lv_iload_n hx hb dX3_putItem_39 rfl (lv_at hl 5 rfl) ?_
  refine g_v (wr := [(q7, .inl (g.2 0, 40, .inl f8)), (q1, .inr (5, [.ref q10, .ref q7]))]) (rSN (rest := []) hx hb hml hown hE hP hD (c257_X9_putAt l g q10 x2 f11 H.size) (kSN_X9_putAt hE (e689 hE) rfl rfl ⟨(Nat.le_of_ble_eq_true rfl), (Nat.le_of_ble_eq_true rfl)⟩) [2] rfl (by decide) rfl hl.1 rfl (lv_room (Nat.le_of_ble_eq_true rfl)) dX3_putItem_40 ⟨(Nat.le_of_ble_eq_true rfl), (Nat.le_of_ble_eq_true rfl)⟩) hP hD hS hA [2] [0, 1] rfl rfl (by decide) (by decide) (fun u3 H locs hP hD hS => ?_)
  have hP : va_P g.1 vwCl [(q7, .inl (g.2 0, 40, .inl f8)), (q1, .inr (5, [.ref q10, .ref q7])), (q10, .inl (g.2 0, 384, .inl (upd f11 97 x2)))] H := hP
  have hD : va_D A [(q7, .inl (g.2 0, 40, .inl f8)), (q1, .inr (5, [.ref q10, .ref q7])), (q10, .inl (g.2 0, 384, .inl (upd f11 97 x2)))] := hD
  refine lv_aload_n hx hb dX3_putItem_43 rfl (lv_at hl 2 rfl) ?_
  refine gf_RX3_9 hx hb hown hE hP 1 rfl rfl dX3_putItem_44 ?_
  refine lv_iload hx hb dX3_putItem_47 (lv_at hl 0 rfl) ?_
  refine lv_iconst (v := 2) hx hb dX3_putItem_49 (by decide) ?_
  refine x_iadd (v := 98) hx hb dX3_putItem_50 (by decide) ?_
  refine lv_iload hx hb dX3_putItem_51 (lv_at hl 6 rfl) ?_
  refine g_v (wr := [(q7, .inl (g.2 0, 40, .inl f8)), (q1, .inr (5, [.ref q10, .ref q7]))]) (rSN (rest := []) hx hb hml hown hE hP hD (c258_X9_putAt l g q10 x3 (upd f11 97 x2) H.size) (kSN_X9_putAt hE (e689 hE) rfl rfl ⟨(Nat.le_of_ble_eq_true rfl), (Nat.le_of_ble_eq_true rfl)⟩) [2] rfl (by decide) rfl hl.1 rfl (lv_room (Nat.le_of_ble_eq_true rfl)) dX3_putItem_53 ⟨(Nat.le_of_ble_eq_true rfl), (Nat.le_of_ble_eq_true rfl)⟩) hP hD hS hA [2] [0, 1] rfl rfl (by decide) (by decide) (fun u4 H locs hP hD hS => ?_)
  have hP : va_P g.1 vwCl [(q7, .inl (g.2 0, 40, .inl f8)), (q1, .inr (5, [.ref q10, .ref q7])), (q10, .inl (g.2 0, 384, .inl (upd (upd f11 97 x2) 98 x3)))] H := hP
  have hD : va_D A [(q7, .inl (g.2 0, 40, .inl f8)), (q1, .inr (5, [.ref q10, .ref q7])), (q10, .inl (g.2 0, 384, .inl (upd (upd f11 97 x2) 98 x3)))] := hD
  refine lv_aload_n hx hb dX3_putItem_56 rfl (lv_at hl 2 rfl) ?_
  refine gf_RX3_9 hx hb hown hE hP 1 rfl rfl dX3_putItem_57 ?_
  refine lv_iload hx hb dX3_putItem_60 (lv_at hl 0 rfl) ?_
  refine lv_iconst (v := 3) hx hb dX3_putItem_62 (by decide) ?_
  refine x_iadd (v := 99) hx hb dX3_putItem_63 (by decide) ?_
  refine lv_iload hx hb dX3_putItem_64 (lv_at hl 7 rfl) ?_
  refine g_v (wr := [(q7, .inl (g.2 0, 40, .inl f8)), (q1, .inr (5, [.ref q10, .ref q7]))]) (rSN (rest := []) hx hb hml hown hE hP hD (c259_X9_putAt l g q10 x4 (upd (upd f11 97 x2) 98 x3) H.size) (kSN_X9_putAt hE (e689 hE) rfl rfl ⟨(Nat.le_of_ble_eq_true rfl), (Nat.le_of_ble_eq_true rfl)⟩) [2] rfl (by decide) rfl hl.1 rfl (lv_room (Nat.le_of_ble_eq_true rfl)) dX3_putItem_66 ⟨(Nat.le_of_ble_eq_true rfl), (Nat.le_of_ble_eq_true rfl)⟩) hP hD hS hA [2] [0, 1] rfl rfl (by decide) (by decide) (fun u5 H locs hP hD hS => ?_)
  have hP : va_P g.1 vwCl [(q7, .inl (g.2 0, 40, .inl f8)), (q1, .inr (5, [.ref q10, .ref q7])), (q10, .inl (g.2 0, 384, .inl (upd (upd (upd f11 97 x2) 98 x3) 99 x4)))] H := hP
  have hD : va_D A [(q7, .inl (g.2 0, 40, .inl f8)), (q1, .inr (5, [.ref q10, .ref q7])), (q10, .inl (g.2 0, 384, .inl (upd (upd (upd f11 97 x2) 98 x3) 99 x4)))] := hD
  refine lv_aload_n hx hb dX3_putItem_69 rfl (lv_at hl 2 rfl) ?_
  refine lv_iload_n hx hb dX3_putItem_70 rfl (lv_at hl 3 rfl) ?_
  refine lv_iconst (v := 0) hx hb dX3_putItem_71 (by decide) ?_
  refine lv_iload hx hb dX3_putItem_72 (lv_at hl 1 rfl) ?_
  refine lv_iconst (v := 1) hx hb dX3_putItem_74 (by decide) ?_
  refine x_iadd (v := 1) hx hb dX3_putItem_75 (by decide) ?_
  refine g_v (wr := [(q10, .inl (g.2 0, 384, .inl (upd (upd (upd f11 97 x2) 98 x3) 99 x4)))]) (rV (rest := []) hx hb hml hown hE hP hD 1 rfl rfl (c260_X3_putFigure l g q1 q7 (.ref q10) f8 H.size) (kV_X3_putFigure hE (e91 hE) rfl rfl ⟨(Nat.le_of_ble_eq_true rfl), (Nat.le_of_ble_eq_true rfl)⟩) [0, 1] rfl (by decide) rfl hl.1 rfl (lv_room (Nat.le_of_ble_eq_true rfl)) dX3_putItem_76 ⟨(Nat.le_of_ble_eq_true rfl), (Nat.le_of_ble_eq_true rfl)⟩) hP hD hS hA [0, 1] [2] rfl rfl (by decide) (by decide) (fun u6 H locs hP hD hS => ?_)
  have hP : va_P g.1 vwCl [(q10, .inl (g.2 0, 384, .inl (upd (upd (upd f11 97 x2) 98 x3) 99 x4))), (q7, .inl (g.2 0, 40, .inl (upd f8 10 1))), (q1, .inr (5, [.ref q10, .ref q7]))] H := hP
  have hD : va_D A [(q10, .inl (g.2 0, 384, .inl (upd (upd (upd f11 97 x2) 98 x3) 99 x4))), (q7, .inl (g.2 0, 40, .inl (upd f8 10 1))), (q1, .inr (5, [.ref q10, .ref q7]))] := hD
  exact x_vret hx hb hr hlocks hP hD hS hAe hsz (Nat.le_of_ble_eq_true rfl) (Nat.le_of_ble_eq_true rfl) (fun _ => 0) [0, 1, 2] (by decide) rfl dX3_putItem_79

set_option maxHeartbeats 4000000 in
set_option maxRecDepth 100000 in
theorem c262_X9_putItem (l : Launch) (g : gG) (q1 q12 q15 q18 : Nat) (x2 x3 x4 : Int32) (w6 w7 w8 w9 w10 w11 : Value) (f16 : Nat → Int32) (f19 : Nat → Int32) (hf17 : f16 10 = 0) (hf20 : f19 96 = 0) (sz : Nat) : Met l yX9_putItem [Cond.code yX9_putItem cX9_putItem 6 none] ({ frames := 2, cells := 0, slots := 0, locals := 51 } : Room) (va_Pc [.ref q1, .int 2, .int 0, .int x2, .int x3, .int x4] (PX g sz [(q18, .inl (g.2 0, 384, .inl f19)), (q15, .inl (g.2 0, 40, .inl f16)), (q12, .inr (5, [.ref q18, .ref q15])), (q1, .inr (8, [.ref q12, w6, w7, w8, w9, w10, w11]))])) (QV g [(q18, .inl (g.2 0, 384, .inl f19)), (q15, .inl (g.2 0, 40, .inl f16)), (q12, .inr (5, [.ref q18, .ref q15])), (q1, .inr (8, [.ref q12, w6, w7, w8, w9, w10, w11]))] sz (fun _ => [(q1, .inr (8, [.ref q12, w6, w7, w8, w9, w10, w11])), (q18, .inl (g.2 0, 384, .inl (upd (upd (upd f19 97 x2) 98 x3) 99 x4))), (q15, .inl (g.2 0, 40, .inl (upd f16 10 1))), (q12, .inr (5, [.ref q18, .ref q15]))])) 0 0 (va_A [(q18, .inl (g.2 0, 384, .inl f19)), (q15, .inl (g.2 0, 40, .inl f16)), (q12, .inr (5, [.ref q18, .ref q15])), (q1, .inr (8, [.ref q12, w6, w7, w8, w9, w10, w11]))] sz) := by
  refine ofN (by decide) (Nat.le_of_ble_eq_true rfl) rfl ?_
  intro p e s m args below meth c A ls hAe hsz hx hb hml hr hlocks hin hown hE hP hD hA hS hl
  have hown : s.vm.findClass RX9 = some m.cls := hown
  refine lv_aload_n hx hb dX9_putItem_0 rfl (lv_at hl 0 rfl) ?_
  refine gf_RX9_108 hx hb hown hE hP 3 rfl rfl dX9_putItem_1 ?_
  refine lv_iload_n hx hb dX9_putItem_4 rfl (lv_at hl 1 rfl) ?_
  refine lv_iconst (v := 0) hx hb dX9_putItem_5 (by decide) ?_
  refine g_i (wr := [(q18, .inl (g.2 0, 384, .inl f19)), (q1, .inr (8, [.ref q12, w6, w7, w8, w9, w10, w11]))]) (rV (rest := []) hx hb hml hown hE hP hD 2 rfl rfl (c152_X3_figure l g q12 q15 (.ref q18) f16 (hf17) s.heap.size) (kV_X3_figure hE (e668 hE) rfl rfl ⟨(Nat.le_of_ble_eq_true rfl), (Nat.le_of_ble_eq_true rfl)⟩) [1, 2] rfl (by decide) rfl hl.1 rfl (lv_room (Nat.le_of_ble_eq_true rfl)) dX9_putItem_6 ⟨(Nat.le_of_ble_eq_true rfl), (Nat.le_of_ble_eq_true rfl)⟩) hP hD hS hA [1, 2] [0, 3] rfl rfl (by decide) (by decide) (fun u1 H locs hP hD hS => ?_)
  have hP : va_P g.1 vwCl [(q18, .inl (g.2 0, 384, .inl f19)), (q1, .inr (8, [.ref q12, w6, w7, w8, w9, w10, w11])), (q15, .inl (g.2 0, 40, .inl f16)), (q12, .inr (5, [.ref q18, .ref q15]))] H := hP
  have hD : va_D A [(q18, .inl (g.2 0, 384, .inl f19)), (q1, .inr (8, [.ref q12, w6, w7, w8, w9, w10, w11])), (q15, .inl (g.2 0, 40, .inl f16)), (q12, .inr (5, [.ref q18, .ref q15]))] := hD
  refine lv_bipush (v := 12) hx hb dX9_putItem_9 (by decide) ?_
  refine lv_icmp_lt (tgt := 25) hx hb dX9_putItem_11 (by decide) (fun _ => ?_) (fun h => absurd (by decide) h)
  refine lv_aload_n hx hb dX9_putItem_25 rfl (lv_at hl 0 rfl) ?_
  refine gf_RX9_108 hx hb hown hE hP 1 rfl rfl dX9_putItem_26 ?_
  refine lv_iload_n hx hb dX9_putItem_29 rfl (lv_at hl 1 rfl) ?_
  refine lv_iload_n hx hb dX9_putItem_30 rfl (lv_at hl 2 rfl) ?_
  refine lv_iload_n hx hb dX9_putItem_31 rfl (lv_at hl 3 rfl) ?_
  refine lv_iload hx hb dX9_putItem_32 (lv_at hl 4 rfl) ?_
  refine lv_iload hx hb dX9_putItem_34 (lv_at hl 5 rfl) ?_
  refine g_v (wr := [(q1, .inr (8, [.ref q12, w6, w7, w8, w9, w10, w11]))]) (rV (rest := []) hx hb hml hown hE hP hD 3 rfl rfl (c261_X3_putItem l g q12 q15 q18 x2 x3 x4 f16 f19 (hf17) (hf20) H.size) (kV_X3_putItem hE (e685 hE) rfl rfl ⟨(Nat.le_of_ble_eq_true rfl), (Nat.le_of_ble_eq_true rfl)⟩) [0, 2, 3] rfl (by decide) rfl hl.1 rfl (lv_room (Nat.le_of_ble_eq_true rfl)) dX9_putItem_36 ⟨(Nat.le_of_ble_eq_true rfl), (Nat.le_of_ble_eq_true rfl)⟩) hP hD hS hA [0, 2, 3] [1] rfl rfl (by decide) (by decide) (fun u2 H locs hP hD hS => ?_)
  have hP : va_P g.1 vwCl [(q1, .inr (8, [.ref q12, w6, w7, w8, w9, w10, w11])), (q18, .inl (g.2 0, 384, .inl (upd (upd (upd f19 97 x2) 98 x3) 99 x4))), (q15, .inl (g.2 0, 40, .inl (upd f16 10 1))), (q12, .inr (5, [.ref q18, .ref q15]))] H := hP
  have hD : va_D A [(q1, .inr (8, [.ref q12, w6, w7, w8, w9, w10, w11])), (q18, .inl (g.2 0, 384, .inl (upd (upd (upd f19 97 x2) 98 x3) 99 x4))), (q15, .inl (g.2 0, 40, .inl (upd f16 10 1))), (q12, .inr (5, [.ref q18, .ref q15]))] := hD
  exact x_vret hx hb hr hlocks hP hD hS hAe hsz (Nat.le_of_ble_eq_true rfl) (Nat.le_of_ble_eq_true rfl) (fun _ => 0) [0, 1, 2, 3] (by decide) rfl dX9_putItem_39

set_option maxHeartbeats 4000000 in
set_option maxRecDepth 100000 in
theorem c263_X3_figure (l : Launch) (g : gG) (q1 q4 : Nat) (w2 : Value) (f5 : Nat → Int32) (hf6 : f5 10 = 1) (sz : Nat) : Met l yX3_figure [Cond.code yX3_figure cX3_figure 4 (some .int)] ({ frames := 0, cells := 0, slots := 0, locals := 0 } : Room) (va_Pc [.ref q1, .int 2, .int 0] (PX g sz [(q4, .inl (g.2 0, 40, .inl f5)), (q1, .inr (5, [w2, .ref q4]))])) (QI g [(q4, .inl (g.2 0, 40, .inl f5)), (q1, .inr (5, [w2, .ref q4]))] sz 1 (fun _ => [(q4, .inl (g.2 0, 40, .inl f5)), (q1, .inr (5, [w2, .ref q4]))])) 0 0 (va_A [(q4, .inl (g.2 0, 40, .inl f5)), (q1, .inr (5, [w2, .ref q4]))] sz) := by
  refine ofN (by decide) (Nat.le_of_ble_eq_true rfl) rfl ?_
  intro p e s m args below meth c A ls hAe hsz hx hb hml hr hlocks hin hown hE hP hD hA hS hl
  have hown : s.vm.findClass RX3 = some m.cls := hown
  refine lv_iload_n hx hb dX3_figure_0 rfl (lv_at hl 1 rfl) ?_
  refine lv_iconst (v := 5) hx hb dX3_figure_1 (by decide) ?_
  refine x_imul (v := 10) hx hb dX3_figure_2 (by decide) ?_
  refine lv_iload_n hx hb dX3_figure_3 rfl (lv_at hl 2 rfl) ?_
  refine x_iadd (v := 10) hx hb dX3_figure_4 (by decide) ?_
  refine lv_istore_n (lv' := [(3, .int 10), (0, .ref q1), (1, .int 2), (2, .int 0)]) hx hb dX3_figure_5 rfl hl (by decide) rfl (fun ls hl => ?_)
  refine lv_iload_n hx hb dX3_figure_6 rfl (lv_at hl 0 rfl) ?_
  refine lv_if_lt (tgt := 28) hx hb dX3_figure_7 (by decide) (fun h => absurd h (by decide)) (fun _ => ?_)
  refine lv_iload_n hx hb dX3_figure_10 rfl (lv_at hl 0 rfl) ?_
  refine lv_aload_n hx hb dX3_figure_11 rfl (lv_at hl 1 rfl) ?_
  refine gf_RX3_15 hx hb hown hE hP 1 rfl rfl dX3_figure_12 ?_
  refine x_aleni (v := 40) hx hb hE hP 0 rfl rfl dX3_figure_15 ?_
  refine lv_icmp_ge (tgt := 28) hx hb dX3_figure_16 (by decide) (fun h => absurd h (by decide)) (fun _ => ?_)
  refine lv_aload_n hx hb dX3_figure_19 rfl (lv_at hl 1 rfl) ?_
  refine gf_RX3_15 hx hb hown hE hP 1 rfl rfl dX3_figure_20 ?_
  refine lv_iload_n hx hb dX3_figure_23 rfl (lv_at hl 0 rfl) ?_
  refine x_iald (v := 1) hx hb hE hP 0 rfl 10 (x_in (by decide)) (by decide) hf6 dX3_figure_24 ?_
  refine lv_goto (tgt := 29) hx hb dX3_figure_25 (by decide) ?_
  exact x_zret hx hb hr rfl rfl hlocks hP hD hS hAe hsz (Nat.le_of_ble_eq_true rfl) (Nat.le_of_ble_eq_true rfl) (fun _ => 0) [0, 1] (by decide) rfl dX3_figure_29

set_option maxHeartbeats 4000000 in
set_option maxRecDepth 100000 in
theorem c264_X3_itemNumber (l : Launch) (g : gG) (q1 q4 : Nat) (x7 : Int32) (w3 : Value) (f5 : Nat → Int32) (hf6 : f5 98 = x7) (sz : Nat) : Met l yX3_itemNumber [Cond.code yX3_itemNumber cX3_itemNumber 5 (some .int)] ({ frames := 0, cells := 0, slots := 0, locals := 0 } : Room) (va_Pc [.ref q1, .int 2, .int 0, .int 2] (PX g sz [(q4, .inl (g.2 0, 384, .inl f5)), (q1, .inr (5, [.ref q4, w3]))])) (QI g [(q4, .inl (g.2 0, 384, .inl f5)), (q1, .inr (5, [.ref q4, w3]))] sz x7 (fun _ => [(q4, .inl (g.2 0, 384, .inl f5)), (q1, .inr (5, [.ref q4, w3]))])) 0 0 (va_A [(q4, .inl (g.2 0, 384, .inl f5)), (q1, .inr (5, [.ref q4, w3]))] sz) := by
  refine ofN (by decide) (Nat.le_of_ble_eq_true rfl) rfl ?_
  intro p e s m args below meth c A ls hAe hsz hx hb hml hr hlocks hin hown hE hP hD hA hS hl
  have hown : s.vm.findClass RX3 = some m.cls := hown
  refine lv_iload_n hx hb dX3_itemNumber_0 rfl (lv_at hl 1 rfl) ?_
  refine lv_bipush (v := 12) hx hb dX3_itemNumber_1 (by decide) ?_
  refine x_imul (v := 24) hx hb dX3_itemNumber_3 (by decide) ?_
  refine lv_iload_n hx hb dX3_itemNumber_4 rfl (lv_at hl 2 rfl) ?_
  refine x_iadd (v := 24) hx hb dX3_itemNumber_5 (by decide) ?_
  refine lv_iconst (v := 4) hx hb dX3_itemNumber_6 (by decide) ?_
  refine x_imul (v := 96) hx hb dX3_itemNumber_7 (by decide) ?_
  refine lv_iload_n hx hb dX3_itemNumber_8 rfl (lv_at hl 3 rfl) ?_
  refine x_iadd (v := 98) hx hb dX3_itemNumber_9 (by decide) ?_
  refine lv_istore (lv' := [(4, .int 98), (0, .ref q1), (1, .int 2), (2, .int 0), (3, .int 2)]) hx hb dX3_itemNumber_10 hl (by decide) rfl (fun ls hl => ?_)
  refine lv_iload hx hb dX3_itemNumber_12 (lv_at hl 0 rfl) ?_
  refine lv_if_lt (tgt := 37) hx hb dX3_itemNumber_14 (by decide) (fun h => absurd h (by decide)) (fun _ => ?_)
  refine lv_iload hx hb dX3_itemNumber_17 (lv_at hl 0 rfl) ?_
  refine lv_aload_n hx hb dX3_itemNumber_19 rfl (lv_at hl 1 rfl) ?_
  refine gf_RX3_9 hx hb hown hE hP 1 rfl rfl dX3_itemNumber_20 ?_
  refine x_aleni (v := 384) hx hb hE hP 0 rfl rfl dX3_itemNumber_23 ?_
  refine lv_icmp_ge (tgt := 37) hx hb dX3_itemNumber_24 (by decide) (fun h => absurd h (by decide)) (fun _ => ?_)
  refine lv_aload_n hx hb dX3_itemNumber_27 rfl (lv_at hl 1 rfl) ?_
  refine gf_RX3_9 hx hb hown hE hP 1 rfl rfl dX3_itemNumber_28 ?_
  refine lv_iload hx hb dX3_itemNumber_31 (lv_at hl 0 rfl) ?_
  refine x_iald (v := x7) hx hb hE hP 0 rfl 98 (x_in (by decide)) (by decide) hf6 dX3_itemNumber_33 ?_
  refine lv_goto (tgt := 38) hx hb dX3_itemNumber_34 (by decide) ?_
  exact x_zret hx hb hr rfl rfl hlocks hP hD hS hAe hsz (Nat.le_of_ble_eq_true rfl) (Nat.le_of_ble_eq_true rfl) (fun _ => 0) [0, 1] (by decide) rfl dX3_itemNumber_38

set_option maxHeartbeats 4000000 in
set_option maxRecDepth 100000 in
theorem c265_X3_itemNumber (l : Launch) (g : gG) (q1 q4 : Nat) (w3 : Value) (f5 : Nat → Int32) (hf6 : f5 96 = 0) (sz : Nat) : Met l yX3_itemNumber [Cond.code yX3_itemNumber cX3_itemNumber 5 (some .int)] ({ frames := 0, cells := 0, slots := 0, locals := 0 } : Room) (va_Pc [.ref q1, .int 2, .int 0, .int 0] (PX g sz [(q4, .inl (g.2 0, 384, .inl f5)), (q1, .inr (5, [.ref q4, w3]))])) (QI g [(q4, .inl (g.2 0, 384, .inl f5)), (q1, .inr (5, [.ref q4, w3]))] sz 0 (fun _ => [(q4, .inl (g.2 0, 384, .inl f5)), (q1, .inr (5, [.ref q4, w3]))])) 0 0 (va_A [(q4, .inl (g.2 0, 384, .inl f5)), (q1, .inr (5, [.ref q4, w3]))] sz) := by
  refine ofN (by decide) (Nat.le_of_ble_eq_true rfl) rfl ?_
  intro p e s m args below meth c A ls hAe hsz hx hb hml hr hlocks hin hown hE hP hD hA hS hl
  have hown : s.vm.findClass RX3 = some m.cls := hown
  refine lv_iload_n hx hb dX3_itemNumber_0 rfl (lv_at hl 1 rfl) ?_
  refine lv_bipush (v := 12) hx hb dX3_itemNumber_1 (by decide) ?_
  refine x_imul (v := 24) hx hb dX3_itemNumber_3 (by decide) ?_
  refine lv_iload_n hx hb dX3_itemNumber_4 rfl (lv_at hl 2 rfl) ?_
  refine x_iadd (v := 24) hx hb dX3_itemNumber_5 (by decide) ?_
  refine lv_iconst (v := 4) hx hb dX3_itemNumber_6 (by decide) ?_
  refine x_imul (v := 96) hx hb dX3_itemNumber_7 (by decide) ?_
  refine lv_iload_n hx hb dX3_itemNumber_8 rfl (lv_at hl 3 rfl) ?_
  refine x_iadd (v := 96) hx hb dX3_itemNumber_9 (by decide) ?_
  refine lv_istore (lv' := [(4, .int 96), (0, .ref q1), (1, .int 2), (2, .int 0), (3, .int 0)]) hx hb dX3_itemNumber_10 hl (by decide) rfl (fun ls hl => ?_)
  refine lv_iload hx hb dX3_itemNumber_12 (lv_at hl 0 rfl) ?_
  refine lv_if_lt (tgt := 37) hx hb dX3_itemNumber_14 (by decide) (fun h => absurd h (by decide)) (fun _ => ?_)
  refine lv_iload hx hb dX3_itemNumber_17 (lv_at hl 0 rfl) ?_
  refine lv_aload_n hx hb dX3_itemNumber_19 rfl (lv_at hl 1 rfl) ?_
  refine gf_RX3_9 hx hb hown hE hP 1 rfl rfl dX3_itemNumber_20 ?_
  refine x_aleni (v := 384) hx hb hE hP 0 rfl rfl dX3_itemNumber_23 ?_
  refine lv_icmp_ge (tgt := 37) hx hb dX3_itemNumber_24 (by decide) (fun h => absurd h (by decide)) (fun _ => ?_)
  refine lv_aload_n hx hb dX3_itemNumber_27 rfl (lv_at hl 1 rfl) ?_
  refine gf_RX3_9 hx hb hown hE hP 1 rfl rfl dX3_itemNumber_28 ?_
  refine lv_iload hx hb dX3_itemNumber_31 (lv_at hl 0 rfl) ?_
  refine x_iald (v := 0) hx hb hE hP 0 rfl 96 (x_in (by decide)) (by decide) hf6 dX3_itemNumber_33 ?_
  refine lv_goto (tgt := 38) hx hb dX3_itemNumber_34 (by decide) ?_
  exact x_zret hx hb hr rfl rfl hlocks hP hD hS hAe hsz (Nat.le_of_ble_eq_true rfl) (Nat.le_of_ble_eq_true rfl) (fun _ => 0) [0, 1] (by decide) rfl dX3_itemNumber_38

set_option maxHeartbeats 4000000 in
set_option maxRecDepth 100000 in
theorem c266_X3_lengthOf (l : Launch) (g : gG) (q1 q4 : Nat) (x7 : Int32) (w3 : Value) (f5 : Nat → Int32) (hf6 : f5 98 = x7) (hf8 : f5 96 = 0) (sz : Nat) : Met l yX3_lengthOf [Cond.code yX3_lengthOf cX3_lengthOf 4 (some .int)] ({ frames := 1, cells := 0, slots := 0, locals := 24 } : Room) (va_Pc [.ref q1, .int 2, .int 0] (PX g sz [(q4, .inl (g.2 0, 384, .inl f5)), (q1, .inr (5, [.ref q4, w3]))])) (QI g [(q4, .inl (g.2 0, 384, .inl f5)), (q1, .inr (5, [.ref q4, w3]))] sz x7 (fun _ => [(q4, .inl (g.2 0, 384, .inl f5)), (q1, .inr (5, [.ref q4, w3]))])) 0 0 (va_A [(q4, .inl (g.2 0, 384, .inl f5)), (q1, .inr (5, [.ref q4, w3]))] sz) := by
  refine ofN (by decide) (Nat.le_of_ble_eq_true rfl) rfl ?_
  intro p e s m args below meth c A ls hAe hsz hx hb hml hr hlocks hin hown hE hP hD hA hS hl
  have hown : s.vm.findClass RX3 = some m.cls := hown
  refine lv_aload_n hx hb dX3_lengthOf_0 rfl (lv_at hl 0 rfl) ?_
  refine lv_iload_n hx hb dX3_lengthOf_1 rfl (lv_at hl 1 rfl) ?_
  refine lv_iload_n hx hb dX3_lengthOf_2 rfl (lv_at hl 2 rfl) ?_
  refine lv_iconst (v := 2) hx hb dX3_lengthOf_3 (by decide) ?_
  refine g_i (wr := []) (rV (rest := []) hx hb hml hown hE hP hD 1 rfl rfl (c264_X3_itemNumber l g q1 q4 x7 w3 f5 (hf6) s.heap.size) (kV_X3_itemNumber hE (e348 hE) rfl rfl ⟨(Nat.le_of_ble_eq_true rfl), (Nat.le_of_ble_eq_true rfl)⟩) [0, 1] rfl (by decide) rfl hl.1 rfl (lv_room (Nat.le_of_ble_eq_true rfl)) dX3_lengthOf_4 ⟨(Nat.le_of_ble_eq_true rfl), (Nat.le_of_ble_eq_true rfl)⟩) hP hD hS hA [0, 1] [] rfl rfl (by decide) (by decide) (fun u1 H locs hP hD hS => ?_)
  have hP : va_P g.1 vwCl [(q4, .inl (g.2 0, 384, .inl f5)), (q1, .inr (5, [.ref q4, w3]))] H := hP
  have hD : va_D A [(q4, .inl (g.2 0, 384, .inl f5)), (q1, .inr (5, [.ref q4, w3]))] := hD
  refine lv_istore_n (lv' := [(3, .int x7), (0, .ref q1), (1, .int 2), (2, .int 0)]) hx hb dX3_lengthOf_7 rfl hl (by decide) rfl (fun ls hl => ?_)
  refine lv_aload_n hx hb dX3_lengthOf_8 rfl (lv_at hl 1 rfl) ?_
  refine lv_iload_n hx hb dX3_lengthOf_9 rfl (lv_at hl 2 rfl) ?_
  refine lv_iload_n hx hb dX3_lengthOf_10 rfl (lv_at hl 3 rfl) ?_
  refine lv_iconst (v := 0) hx hb dX3_lengthOf_11 (by decide) ?_
  refine g_i (wr := []) (rV (rest := []) hx hb hml hown hE hP hD 1 rfl rfl (c265_X3_itemNumber l g q1 q4 w3 f5 (hf8) H.size) (kV_X3_itemNumber hE (e348 hE) rfl rfl ⟨(Nat.le_of_ble_eq_true rfl), (Nat.le_of_ble_eq_true rfl)⟩) [0, 1] rfl (by decide) rfl hl.1 rfl (lv_room (Nat.le_of_ble_eq_true rfl)) dX3_lengthOf_12 ⟨(Nat.le_of_ble_eq_true rfl), (Nat.le_of_ble_eq_true rfl)⟩) hP hD hS hA [0, 1] [] rfl rfl (by decide) (by decide) (fun u2 H locs hP hD hS => ?_)
  have hP : va_P g.1 vwCl [(q4, .inl (g.2 0, 384, .inl f5)), (q1, .inr (5, [.ref q4, w3]))] H := hP
  have hD : va_D A [(q4, .inl (g.2 0, 384, .inl f5)), (q1, .inr (5, [.ref q4, w3]))] := hD
  refine lv_iconst (v := 2) hx hb dX3_lengthOf_15 (by decide) ?_
  refine lv_icmp_ne (tgt := 34) hx hb dX3_lengthOf_16 (by decide) (fun _ => ?_) (fun h => absurd h (by decide))
  refine lv_iload_n hx hb dX3_lengthOf_34 rfl (lv_at hl 0 rfl) ?_
  exact x_zret hx hb hr rfl rfl hlocks hP hD hS hAe hsz (Nat.le_of_ble_eq_true rfl) (Nat.le_of_ble_eq_true rfl) (fun _ => 0) [0, 1] (by decide) rfl dX3_lengthOf_35

set_option maxHeartbeats 4000000 in
set_option maxRecDepth 100000 in
theorem c267_X3_notesOf (l : Launch) (g : gG) (q1 q4 : Nat) (w3 : Value) (f5 : Nat → Int32) (hf6 : f5 96 = 0) (sz : Nat) : Met l yX3_notesOf [Cond.code yX3_notesOf cX3_notesOf 4 (some .int)] ({ frames := 1, cells := 0, slots := 0, locals := 24 } : Room) (va_Pc [.ref q1, .int 2, .int 0] (PX g sz [(q4, .inl (g.2 0, 384, .inl f5)), (q1, .inr (5, [.ref q4, w3]))])) (QI g [(q4, .inl (g.2 0, 384, .inl f5)), (q1, .inr (5, [.ref q4, w3]))] sz 1 (fun _ => [(q4, .inl (g.2 0, 384, .inl f5)), (q1, .inr (5, [.ref q4, w3]))])) 0 0 (va_A [(q4, .inl (g.2 0, 384, .inl f5)), (q1, .inr (5, [.ref q4, w3]))] sz) := by
  refine ofN (by decide) (Nat.le_of_ble_eq_true rfl) rfl ?_
  intro p e s m args below meth c A ls hAe hsz hx hb hml hr hlocks hin hown hE hP hD hA hS hl
  have hown : s.vm.findClass RX3 = some m.cls := hown
  refine lv_aload_n hx hb dX3_notesOf_0 rfl (lv_at hl 0 rfl) ?_
  refine lv_iload_n hx hb dX3_notesOf_1 rfl (lv_at hl 1 rfl) ?_
  refine lv_iload_n hx hb dX3_notesOf_2 rfl (lv_at hl 2 rfl) ?_
  refine lv_iconst (v := 0) hx hb dX3_notesOf_3 (by decide) ?_
  refine g_i (wr := []) (rV (rest := []) hx hb hml hown hE hP hD 1 rfl rfl (c265_X3_itemNumber l g q1 q4 w3 f5 (hf6) s.heap.size) (kV_X3_itemNumber hE (e348 hE) rfl rfl ⟨(Nat.le_of_ble_eq_true rfl), (Nat.le_of_ble_eq_true rfl)⟩) [0, 1] rfl (by decide) rfl hl.1 rfl (lv_room (Nat.le_of_ble_eq_true rfl)) dX3_notesOf_4 ⟨(Nat.le_of_ble_eq_true rfl), (Nat.le_of_ble_eq_true rfl)⟩) hP hD hS hA [0, 1] [] rfl rfl (by decide) (by decide) (fun u1 H locs hP hD hS => ?_)
  have hP : va_P g.1 vwCl [(q4, .inl (g.2 0, 384, .inl f5)), (q1, .inr (5, [.ref q4, w3]))] H := hP
  have hD : va_D A [(q4, .inl (g.2 0, 384, .inl f5)), (q1, .inr (5, [.ref q4, w3]))] := hD
  refine lv_istore_n (lv' := [(3, .int 0), (0, .ref q1), (1, .int 2), (2, .int 0)]) hx hb dX3_notesOf_7 rfl hl (by decide) rfl (fun ls hl => ?_)
  refine lv_iload_n hx hb dX3_notesOf_8 rfl (lv_at hl 0 rfl) ?_
  refine lv_iconst (v := 2) hx hb dX3_notesOf_9 (by decide) ?_
  refine lv_icmp_ne (tgt := 34) hx hb dX3_notesOf_10 (by decide) (fun _ => ?_) (fun h => absurd h (by decide))
  refine lv_iload_n hx hb dX3_notesOf_34 rfl (lv_at hl 0 rfl) ?_
  refine lv_if_ne (tgt := 42) hx hb dX3_notesOf_35 (by decide) (fun h => absurd h (by decide)) (fun _ => ?_)
  refine lv_iconst (v := 1) hx hb dX3_notesOf_38 (by decide) ?_
  refine lv_goto (tgt := 43) hx hb dX3_notesOf_39 (by decide) ?_
  exact x_zret hx hb hr rfl rfl hlocks hP hD hS hAe hsz (Nat.le_of_ble_eq_true rfl) (Nat.le_of_ble_eq_true rfl) (fun _ => 0) [0, 1] (by decide) rfl dX3_notesOf_43

set_option maxHeartbeats 4000000 in
set_option maxRecDepth 100000 in
theorem c268_X3_putFigure (l : Launch) (g : gG) (q1 q5 : Nat) (x2 : Int32) (w3 : Value) (f6 : Nat → Int32) (sz : Nat) : Met l yX3_putFigure [Cond.code yX3_putFigure cX3_putFigure 5 none] ({ frames := 0, cells := 0, slots := 0, locals := 0 } : Room) (va_Pc [.ref q1, .int 2, .int 1, .int x2] (PX g sz [(q5, .inl (g.2 0, 40, .inl f6)), (q1, .inr (5, [w3, .ref q5]))])) (QV g [(q5, .inl (g.2 0, 40, .inl f6)), (q1, .inr (5, [w3, .ref q5]))] sz (fun _ => [(q5, .inl (g.2 0, 40, .inl (upd f6 11 x2))), (q1, .inr (5, [w3, .ref q5]))])) 0 0 (va_A [(q5, .inl (g.2 0, 40, .inl f6)), (q1, .inr (5, [w3, .ref q5]))] sz) := by
  refine ofN (by decide) (Nat.le_of_ble_eq_true rfl) rfl ?_
  intro p e s m args below meth c A ls hAe hsz hx hb hml hr hlocks hin hown hE hP hD hA hS hl
  have hown : s.vm.findClass RX3 = some m.cls := hown
  refine lv_iload_n hx hb dX3_putFigure_0 rfl (lv_at hl 1 rfl) ?_
  refine lv_iconst (v := 5) hx hb dX3_putFigure_1 (by decide) ?_
  refine x_imul (v := 10) hx hb dX3_putFigure_2 (by decide) ?_
  refine lv_iload_n hx hb dX3_putFigure_3 rfl (lv_at hl 2 rfl) ?_
  refine x_iadd (v := 11) hx hb dX3_putFigure_4 (by decide) ?_
  refine lv_istore (lv' := [(4, .int 11), (0, .ref q1), (1, .int 2), (2, .int 1), (3, .int x2)]) hx hb dX3_putFigure_5 hl (by decide) rfl (fun ls hl => ?_)
  refine lv_iload hx hb dX3_putFigure_7 (lv_at hl 0 rfl) ?_
  refine lv_if_lt (tgt := 30) hx hb dX3_putFigure_9 (by decide) (fun h => absurd h (by decide)) (fun _ => ?_)
  refine lv_iload hx hb dX3_putFigure_12 (lv_at hl 0 rfl) ?_
  refine lv_aload_n hx hb dX3_putFigure_14 rfl (lv_at hl 1 rfl) ?_
  refine gf_RX3_15 hx hb hown hE hP 1 rfl rfl dX3_putFigure_15 ?_
  refine x_aleni (v := 40) hx hb hE hP 0 rfl rfl dX3_putFigure_18 ?_
  refine lv_icmp_ge (tgt := 30) hx hb dX3_putFigure_19 (by decide) (fun h => absurd h (by decide)) (fun _ => ?_)
  refine lv_aload_n hx hb dX3_putFigure_22 rfl (lv_at hl 1 rfl) ?_
  refine gf_RX3_15 hx hb hown hE hP 1 rfl rfl dX3_putFigure_23 ?_
  refine lv_iload hx hb dX3_putFigure_26 (lv_at hl 0 rfl) ?_
  refine lv_iload_n hx hb dX3_putFigure_28 rfl (lv_at hl 4 rfl) ?_
  refine x_iast (ws' := [(q5, .inl (g.2 0, 40, .inl (upd f6 11 x2))), (q1, .inr (5, [w3, .ref q5]))]) hx hb hE hP hD hS 0 rfl 11 (x_in (by decide)) (by decide) dX3_putFigure_29 rfl (fun H locs hP hD hS => ?_)
  exact x_vret hx hb hr hlocks hP hD hS hAe hsz (Nat.le_of_ble_eq_true rfl) (Nat.le_of_ble_eq_true rfl) (fun _ => 0) [0, 1] (by decide) rfl dX3_putFigure_30

set_option maxHeartbeats 4000000 in
set_option maxRecDepth 100000 in
theorem c269_X3_putFigure (l : Launch) (g : gG) (q1 q4 : Nat) (w2 : Value) (f5 : Nat → Int32) (sz : Nat) : Met l yX3_putFigure [Cond.code yX3_putFigure cX3_putFigure 5 none] ({ frames := 0, cells := 0, slots := 0, locals := 0 } : Room) (va_Pc [.ref q1, .int 2, .int 2, .int 1] (PX g sz [(q4, .inl (g.2 0, 40, .inl f5)), (q1, .inr (5, [w2, .ref q4]))])) (QV g [(q4, .inl (g.2 0, 40, .inl f5)), (q1, .inr (5, [w2, .ref q4]))] sz (fun _ => [(q4, .inl (g.2 0, 40, .inl (upd f5 12 1))), (q1, .inr (5, [w2, .ref q4]))])) 0 0 (va_A [(q4, .inl (g.2 0, 40, .inl f5)), (q1, .inr (5, [w2, .ref q4]))] sz) := by
  refine ofN (by decide) (Nat.le_of_ble_eq_true rfl) rfl ?_
  intro p e s m args below meth c A ls hAe hsz hx hb hml hr hlocks hin hown hE hP hD hA hS hl
  have hown : s.vm.findClass RX3 = some m.cls := hown
  refine lv_iload_n hx hb dX3_putFigure_0 rfl (lv_at hl 1 rfl) ?_
  refine lv_iconst (v := 5) hx hb dX3_putFigure_1 (by decide) ?_
  refine x_imul (v := 10) hx hb dX3_putFigure_2 (by decide) ?_
  refine lv_iload_n hx hb dX3_putFigure_3 rfl (lv_at hl 2 rfl) ?_
  refine x_iadd (v := 12) hx hb dX3_putFigure_4 (by decide) ?_
  refine lv_istore (lv' := [(4, .int 12), (0, .ref q1), (1, .int 2), (2, .int 2), (3, .int 1)]) hx hb dX3_putFigure_5 hl (by decide) rfl (fun ls hl => ?_)
  refine lv_iload hx hb dX3_putFigure_7 (lv_at hl 0 rfl) ?_
  refine lv_if_lt (tgt := 30) hx hb dX3_putFigure_9 (by decide) (fun h => absurd h (by decide)) (fun _ => ?_)
  refine lv_iload hx hb dX3_putFigure_12 (lv_at hl 0 rfl) ?_
  refine lv_aload_n hx hb dX3_putFigure_14 rfl (lv_at hl 1 rfl) ?_
  refine gf_RX3_15 hx hb hown hE hP 1 rfl rfl dX3_putFigure_15 ?_
  refine x_aleni (v := 40) hx hb hE hP 0 rfl rfl dX3_putFigure_18 ?_
  refine lv_icmp_ge (tgt := 30) hx hb dX3_putFigure_19 (by decide) (fun h => absurd h (by decide)) (fun _ => ?_)
  refine lv_aload_n hx hb dX3_putFigure_22 rfl (lv_at hl 1 rfl) ?_
  refine gf_RX3_15 hx hb hown hE hP 1 rfl rfl dX3_putFigure_23 ?_
  refine lv_iload hx hb dX3_putFigure_26 (lv_at hl 0 rfl) ?_
  refine lv_iload_n hx hb dX3_putFigure_28 rfl (lv_at hl 4 rfl) ?_
  refine x_iast (ws' := [(q4, .inl (g.2 0, 40, .inl (upd f5 12 1))), (q1, .inr (5, [w2, .ref q4]))]) hx hb hE hP hD hS 0 rfl 12 (x_in (by decide)) (by decide) dX3_putFigure_29 rfl (fun H locs hP hD hS => ?_)
  exact x_vret hx hb hr hlocks hP hD hS hAe hsz (Nat.le_of_ble_eq_true rfl) (Nat.le_of_ble_eq_true rfl) (fun _ => 0) [0, 1] (by decide) rfl dX3_putFigure_30

set_option maxHeartbeats 4000000 in
set_option maxRecDepth 100000 in
theorem c270_X3_measureOne (l : Launch) (g : gG) (q1 q4 q7 : Nat) (x10 : Int32) (f5 : Nat → Int32) (f8 : Nat → Int32) (hf6 : f5 10 = 1) (hf9 : f8 98 = x10) (hf11 : f8 96 = 0) (hf12 : f5 13 = 0) (sz : Nat) : Met l yX3_measureOne [Cond.code yX3_measureOne cX3_measureOne 9 none] ({ frames := 2, cells := 0, slots := 0, locals := 47 } : Room) (va_Pc [.ref q1, .int 2] (PX g sz [(q7, .inl (g.2 0, 384, .inl f8)), (q4, .inl (g.2 0, 40, .inl f5)), (q1, .inr (5, [.ref q7, .ref q4]))])) (QV g [(q7, .inl (g.2 0, 384, .inl f8)), (q4, .inl (g.2 0, 40, .inl f5)), (q1, .inr (5, [.ref q7, .ref q4]))] sz (fun _ => [(q7, .inl (g.2 0, 384, .inl f8)), (q4, .inl (g.2 0, 40, .inl (upd (upd (upd f5 11 x10) 12 1) 14 1))), (q1, .inr (5, [.ref q7, .ref q4]))])) 0 0 (va_A [(q7, .inl (g.2 0, 384, .inl f8)), (q4, .inl (g.2 0, 40, .inl f5)), (q1, .inr (5, [.ref q7, .ref q4]))] sz) := by
  refine ofN (by decide) (Nat.le_of_ble_eq_true rfl) rfl ?_
  intro p e s m args below meth c A ls hAe hsz hx hb hml hr hlocks hin hown hE hP hD hA hS hl
  have hown : s.vm.findClass RX3 = some m.cls := hown
  refine lv_iconst (v := 0) hx hb dX3_measureOne_0 (by decide) ?_
  refine lv_istore_n (lv' := [(2, .int 0), (0, .ref q1), (1, .int 2)]) hx hb dX3_measureOne_1 rfl hl (by decide) rfl (fun ls hl => ?_)
  refine lv_iconst (v := 0) hx hb dX3_measureOne_2 (by decide) ?_
  refine lv_istore_n (lv' := [(3, .int 0), (2, .int 0), (0, .ref q1), (1, .int 2)]) hx hb dX3_measureOne_3 rfl hl (by decide) rfl (fun ls hl => ?_)
  refine lv_iconst (v := 0) hx hb dX3_measureOne_4 (by decide) ?_
  refine lv_istore (lv' := [(4, .int 0), (3, .int 0), (2, .int 0), (0, .ref q1), (1, .int 2)]) hx hb dX3_measureOne_5 hl (by decide) rfl (fun ls hl => ?_)
  refine lv_iconst (v := 1) hx hb dX3_measureOne_7 (by decide) ?_
  refine lv_istore (lv' := [(5, .int 1), (4, .int 0), (3, .int 0), (2, .int 0), (0, .ref q1), (1, .int 2)]) hx hb dX3_measureOne_8 hl (by decide) rfl (fun ls hl => ?_)
  refine lv_aload_n hx hb dX3_measureOne_10 rfl (lv_at hl 4 rfl) ?_
  refine lv_iload_n hx hb dX3_measureOne_11 rfl (lv_at hl 5 rfl) ?_
  refine lv_iconst (v := 0) hx hb dX3_measureOne_12 (by decide) ?_
  refine g_i (wr := [(q7, .inl (g.2 0, 384, .inl f8))]) (rV (rest := []) hx hb hml hown hE hP hD 2 rfl rfl (c263_X3_figure l g q1 q4 (.ref q7) f5 (hf6) s.heap.size) (kV_X3_figure hE (e343 hE) rfl rfl ⟨(Nat.le_of_ble_eq_true rfl), (Nat.le_of_ble_eq_true rfl)⟩) [1, 2] rfl (by decide) rfl hl.1 rfl (lv_room (Nat.le_of_ble_eq_true rfl)) dX3_measureOne_13 ⟨(Nat.le_of_ble_eq_true rfl), (Nat.le_of_ble_eq_true rfl)⟩) hP hD hS hA [1, 2] [0] rfl rfl (by decide) (by decide) (fun u1 H locs hP hD hS => ?_)
  have hP : va_P g.1 vwCl [(q7, .inl (g.2 0, 384, .inl f8)), (q4, .inl (g.2 0, 40, .inl f5)), (q1, .inr (5, [.ref q7, .ref q4]))] H := hP
  have hD : va_D A [(q7, .inl (g.2 0, 384, .inl f8)), (q4, .inl (g.2 0, 40, .inl f5)), (q1, .inr (5, [.ref q7, .ref q4]))] := hD
  refine lv_istore (lv' := [(6, .int 1), (5, .int 1), (4, .int 0), (3, .int 0), (2, .int 0), (0, .ref q1), (1, .int 2)]) hx hb dX3_measureOne_16 hl (by decide) rfl (fun ls hl => ?_)
  refine lv_iconst (v := 0) hx hb dX3_measureOne_18 (by decide) ?_
  refine lv_istore (lv' := [(7, .int 0), (6, .int 1), (5, .int 1), (4, .int 0), (3, .int 0), (2, .int 0), (0, .ref q1), (1, .int 2)]) hx hb dX3_measureOne_19 hl (by decide) rfl (fun ls hl => ?_)
  refine lv_iload hx hb dX3_measureOne_21 (lv_at hl 0 rfl) ?_
  refine lv_iload hx hb dX3_measureOne_23 (lv_at hl 1 rfl) ?_
  refine lv_icmp_ge (tgt := 109) hx hb dX3_measureOne_25 (by decide) (fun h => absurd h (by decide)) (fun _ => ?_)
  refine lv_iload_n hx hb dX3_measureOne_28 rfl (lv_at hl 5 rfl) ?_
  refine lv_aload_n hx hb dX3_measureOne_29 rfl (lv_at hl 6 rfl) ?_
  refine lv_iload_n hx hb dX3_measureOne_30 rfl (lv_at hl 7 rfl) ?_
  refine lv_iload hx hb dX3_measureOne_31 (lv_at hl 0 rfl) ?_
  refine g_i (wr := [(q4, .inl (g.2 0, 40, .inl f5))]) (rV (rest := [.int 0]) hx hb hml hown hE hP hD 2 rfl rfl (c266_X3_lengthOf l g q1 q7 x10 (.ref q4) f8 (hf9) (hf11) H.size) (kV_X3_lengthOf hE (e352 hE) rfl rfl ⟨(Nat.le_of_ble_eq_true rfl), (Nat.le_of_ble_eq_true rfl)⟩) [0, 2] rfl (by decide) rfl hl.1 rfl (lv_room (Nat.le_of_ble_eq_true rfl)) dX3_measureOne_33 ⟨(Nat.le_of_ble_eq_true rfl), (Nat.le_of_ble_eq_true rfl)⟩) hP hD hS hA [0, 2] [1] rfl rfl (by decide) (by decide) (fun u2 H locs hP hD hS => ?_)
  have hP : va_P g.1 vwCl [(q4, .inl (g.2 0, 40, .inl f5)), (q7, .inl (g.2 0, 384, .inl f8)), (q1, .inr (5, [.ref q7, .ref q4]))] H := hP
  have hD : va_D A [(q4, .inl (g.2 0, 40, .inl f5)), (q7, .inl (g.2 0, 384, .inl f8)), (q1, .inr (5, [.ref q7, .ref q4]))] := hD
  refine x_iadd (v := x10) hx hb dX3_measureOne_36 (Int32.zero_add _) ?_
  refine lv_istore_n (lv' := [(2, .int x10), (7, .int 0), (6, .int 1), (5, .int 1), (4, .int 0), (3, .int 0), (0, .ref q1), (1, .int 2)]) hx hb dX3_measureOne_37 rfl hl (by decide) rfl (fun ls hl => ?_)
  refine lv_iload_n hx hb dX3_measureOne_38 rfl (lv_at hl 5 rfl) ?_
  refine lv_aload_n hx hb dX3_measureOne_39 rfl (lv_at hl 6 rfl) ?_
  refine lv_iload_n hx hb dX3_measureOne_40 rfl (lv_at hl 7 rfl) ?_
  refine lv_iload hx hb dX3_measureOne_41 (lv_at hl 1 rfl) ?_
  refine g_i (wr := [(q4, .inl (g.2 0, 40, .inl f5))]) (rV (rest := [.int 0]) hx hb hml hown hE hP hD 2 rfl rfl (c267_X3_notesOf l g q1 q7 (.ref q4) f8 (hf11) H.size) (kV_X3_notesOf hE (e344 hE) rfl rfl ⟨(Nat.le_of_ble_eq_true rfl), (Nat.le_of_ble_eq_true rfl)⟩) [1, 2] rfl (by decide) rfl hl.1 rfl (lv_room (Nat.le_of_ble_eq_true rfl)) dX3_measureOne_43 ⟨(Nat.le_of_ble_eq_true rfl), (Nat.le_of_ble_eq_true rfl)⟩) hP hD hS hA [1, 2] [0] rfl rfl (by decide) (by decide) (fun u3 H locs hP hD hS => ?_)
  have hP : va_P g.1 vwCl [(q4, .inl (g.2 0, 40, .inl f5)), (q7, .inl (g.2 0, 384, .inl f8)), (q1, .inr (5, [.ref q7, .ref q4]))] H := hP
  have hD : va_D A [(q4, .inl (g.2 0, 40, .inl f5)), (q7, .inl (g.2 0, 384, .inl f8)), (q1, .inr (5, [.ref q7, .ref q4]))] := hD
  refine x_iadd (v := 1) hx hb dX3_measureOne_46 (by decide) ?_
  refine lv_istore_n (lv' := [(3, .int 1), (2, .int x10), (7, .int 0), (6, .int 1), (5, .int 1), (4, .int 0), (0, .ref q1), (1, .int 2)]) hx hb dX3_measureOne_47 rfl hl (by decide) rfl (fun ls hl => ?_)
  refine lv_aload_n hx hb dX3_measureOne_48 rfl (lv_at hl 6 rfl) ?_
  refine lv_iload_n hx hb dX3_measureOne_49 rfl (lv_at hl 7 rfl) ?_
  refine lv_iload hx hb dX3_measureOne_50 (lv_at hl 2 rfl) ?_
  refine lv_iconst (v := 0) hx hb dX3_measureOne_52 (by decide) ?_
  refine g_i (wr := [(q4, .inl (g.2 0, 40, .inl f5))]) (rV (rest := []) hx hb hml hown hE hP hD 2 rfl rfl (c265_X3_itemNumber l g q1 q7 (.ref q4) f8 (hf11) H.size) (kV_X3_itemNumber hE (e348 hE) rfl rfl ⟨(Nat.le_of_ble_eq_true rfl), (Nat.le_of_ble_eq_true rfl)⟩) [1, 2] rfl (by decide) rfl hl.1 rfl (lv_room (Nat.le_of_ble_eq_true rfl)) dX3_measureOne_53 ⟨(Nat.le_of_ble_eq_true rfl), (Nat.le_of_ble_eq_true rfl)⟩) hP hD hS hA [1, 2] [0] rfl rfl (by decide) (by decide) (fun u4 H locs hP hD hS => ?_)
  have hP : va_P g.1 vwCl [(q4, .inl (g.2 0, 40, .inl f5)), (q7, .inl (g.2 0, 384, .inl f8)), (q1, .inr (5, [.ref q7, .ref q4]))] H := hP
  have hD : va_D A [(q4, .inl (g.2 0, 40, .inl f5)), (q7, .inl (g.2 0, 384, .inl f8)), (q1, .inr (5, [.ref q7, .ref q4]))] := hD
  refine lv_iconst (v := 2) hx hb dX3_measureOne_56 (by decide) ?_
  refine lv_icmp_ne (tgt := 103) hx hb dX3_measureOne_57 (by decide) (fun _ => ?_) (fun h => absurd h (by decide))
  refine lv_iinc (v := 1) (lv' := [(7, .int 1), (3, .int 1), (2, .int x10), (6, .int 1), (5, .int 1), (4, .int 0), (0, .ref q1), (1, .int 2)]) hx hb dX3_measureOne_103 hl (k := 2) rfl (by decide) (by decide) rfl (fun ls hl => ?_)
  refine lv_goto (tgt := 21) hx hb dX3_measureOne_106 (by decide) ?_
  refine lv_iload hx hb dX3_measureOne_21 (lv_at hl 0 rfl) ?_
  refine lv_iload hx hb dX3_measureOne_23 (lv_at hl 3 rfl) ?_
  refine lv_icmp_ge (tgt := 109) hx hb dX3_measureOne_25 (by decide) (fun _ => ?_) (fun h => absurd (by decide) h)
  refine lv_aload_n hx hb dX3_measureOne_109 rfl (lv_at hl 6 rfl) ?_
  refine lv_iload_n hx hb dX3_measureOne_110 rfl (lv_at hl 7 rfl) ?_
  refine lv_iconst (v := 1) hx hb dX3_measureOne_111 (by decide) ?_
  refine lv_iload_n hx hb dX3_measureOne_112 rfl (lv_at hl 2 rfl) ?_
  refine g_v (wr := [(q7, .inl (g.2 0, 384, .inl f8))]) (rV (rest := []) hx hb hml hown hE hP hD 2 rfl rfl (c268_X3_putFigure l g q1 q4 x10 (.ref q7) f5 H.size) (kV_X3_putFigure hE (e91 hE) rfl rfl ⟨(Nat.le_of_ble_eq_true rfl), (Nat.le_of_ble_eq_true rfl)⟩) [0, 2] rfl (by decide) rfl hl.1 rfl (lv_room (Nat.le_of_ble_eq_true rfl)) dX3_measureOne_113 ⟨(Nat.le_of_ble_eq_true rfl), (Nat.le_of_ble_eq_true rfl)⟩) hP hD hS hA [0, 2] [1] rfl rfl (by decide) (by decide) (fun u5 H locs hP hD hS => ?_)
  have hP : va_P g.1 vwCl [(q7, .inl (g.2 0, 384, .inl f8)), (q4, .inl (g.2 0, 40, .inl (upd f5 11 x10))), (q1, .inr (5, [.ref q7, .ref q4]))] H := hP
  have hD : va_D A [(q7, .inl (g.2 0, 384, .inl f8)), (q4, .inl (g.2 0, 40, .inl (upd f5 11 x10))), (q1, .inr (5, [.ref q7, .ref q4]))] := hD
  refine lv_aload_n hx hb dX3_measureOne_116 rfl (lv_at hl 6 rfl) ?_
  refine lv_iload_n hx hb dX3_measureOne_117 rfl (lv_at hl 7 rfl) ?_
  refine lv_iconst (v := 2) hx hb dX3_measureOne_118 (by decide) ?_
  refine lv_iload_n hx hb dX3_measureOne_119 rfl (lv_at hl 1 rfl) ?_
  refine g_v (wr := [(q7, .inl (g.2 0, 384, .inl f8))]) (rV (rest := []) hx hb hml hown hE hP hD 2 rfl rfl (c269_X3_putFigure l g q1 q4 (.ref q7) (upd f5 11 x10) H.size) (kV_X3_putFigure hE (e91 hE) rfl rfl ⟨(Nat.le_of_ble_eq_true rfl), (Nat.le_of_ble_eq_true rfl)⟩) [1, 2] rfl (by decide) rfl hl.1 rfl (lv_room (Nat.le_of_ble_eq_true rfl)) dX3_measureOne_120 ⟨(Nat.le_of_ble_eq_true rfl), (Nat.le_of_ble_eq_true rfl)⟩) hP hD hS hA [1, 2] [0] rfl rfl (by decide) (by decide) (fun u6 H locs hP hD hS => ?_)
  have hP : va_P g.1 vwCl [(q7, .inl (g.2 0, 384, .inl f8)), (q4, .inl (g.2 0, 40, .inl (upd (upd f5 11 x10) 12 1))), (q1, .inr (5, [.ref q7, .ref q4]))] H := hP
  have hD : va_D A [(q7, .inl (g.2 0, 384, .inl f8)), (q4, .inl (g.2 0, 40, .inl (upd (upd f5 11 x10) 12 1))), (q1, .inr (5, [.ref q7, .ref q4]))] := hD
  refine lv_aload_n hx hb dX3_measureOne_123 rfl (lv_at hl 6 rfl) ?_
  refine lv_iload_n hx hb dX3_measureOne_124 rfl (lv_at hl 7 rfl) ?_
  refine lv_iconst (v := 3) hx hb dX3_measureOne_125 (by decide) ?_
  refine lv_iload hx hb dX3_measureOne_126 (lv_at hl 5 rfl) ?_
  refine g_v (wr := [(q7, .inl (g.2 0, 384, .inl f8))]) (rV (rest := []) hx hb hml hown hE hP hD 2 rfl rfl (c155_X3_putFigure l g q1 q4 (.ref q7) (upd (upd f5 11 x10) 12 1) (((pk_un (by decide)).trans ((pk_un (by decide)).trans hf12))) H.size) (kV_X3_putFigure hE (e91 hE) rfl rfl ⟨(Nat.le_of_ble_eq_true rfl), (Nat.le_of_ble_eq_true rfl)⟩) [1, 2] rfl (by decide) rfl hl.1 rfl (lv_room (Nat.le_of_ble_eq_true rfl)) dX3_measureOne_128 ⟨(Nat.le_of_ble_eq_true rfl), (Nat.le_of_ble_eq_true rfl)⟩) hP hD hS hA [1, 2] [0] rfl rfl (by decide) (by decide) (fun u7 H locs hP hD hS => ?_)
  have hP : va_P g.1 vwCl [(q7, .inl (g.2 0, 384, .inl f8)), (q4, .inl (g.2 0, 40, .inl (upd (upd f5 11 x10) 12 1))), (q1, .inr (5, [.ref q7, .ref q4]))] H := hP
  have hD : va_D A [(q7, .inl (g.2 0, 384, .inl f8)), (q4, .inl (g.2 0, 40, .inl (upd (upd f5 11 x10) 12 1))), (q1, .inr (5, [.ref q7, .ref q4]))] := hD
  refine lv_aload_n hx hb dX3_measureOne_131 rfl (lv_at hl 6 rfl) ?_
  refine lv_iload_n hx hb dX3_measureOne_132 rfl (lv_at hl 7 rfl) ?_
  refine lv_iconst (v := 4) hx hb dX3_measureOne_133 (by decide) ?_
  refine lv_iload hx hb dX3_measureOne_134 (lv_at hl 4 rfl) ?_
  refine g_v (wr := [(q7, .inl (g.2 0, 384, .inl f8))]) (rV (rest := []) hx hb hml hown hE hP hD 2 rfl rfl (c5_X3_putFigure l g q1 q4 (.ref q7) (upd (upd f5 11 x10) 12 1) H.size) (kV_X3_putFigure hE (e91 hE) rfl rfl ⟨(Nat.le_of_ble_eq_true rfl), (Nat.le_of_ble_eq_true rfl)⟩) [1, 2] rfl (by decide) rfl hl.1 rfl (lv_room (Nat.le_of_ble_eq_true rfl)) dX3_measureOne_136 ⟨(Nat.le_of_ble_eq_true rfl), (Nat.le_of_ble_eq_true rfl)⟩) hP hD hS hA [1, 2] [0] rfl rfl (by decide) (by decide) (fun u8 H locs hP hD hS => ?_)
  have hP : va_P g.1 vwCl [(q7, .inl (g.2 0, 384, .inl f8)), (q4, .inl (g.2 0, 40, .inl (upd (upd (upd f5 11 x10) 12 1) 14 1))), (q1, .inr (5, [.ref q7, .ref q4]))] H := hP
  have hD : va_D A [(q7, .inl (g.2 0, 384, .inl f8)), (q4, .inl (g.2 0, 40, .inl (upd (upd (upd f5 11 x10) 12 1) 14 1))), (q1, .inr (5, [.ref q7, .ref q4]))] := hD
  exact x_vret hx hb hr hlocks hP hD hS hAe hsz (Nat.le_of_ble_eq_true rfl) (Nat.le_of_ble_eq_true rfl) (fun _ => 0) [0, 1, 2] (by decide) rfl dX3_measureOne_139

set_option maxHeartbeats 4000000 in
set_option maxRecDepth 100000 in
theorem c271_X3_figure (l : Launch) (g : gG) (q1 q4 : Nat) (x7 : Int32) (w2 : Value) (f5 : Nat → Int32) (hf6 : f5 11 = x7) (sz : Nat) : Met l yX3_figure [Cond.code yX3_figure cX3_figure 4 (some .int)] ({ frames := 0, cells := 0, slots := 0, locals := 0 } : Room) (va_Pc [.ref q1, .int 2, .int 1] (PX g sz [(q4, .inl (g.2 0, 40, .inl f5)), (q1, .inr (5, [w2, .ref q4]))])) (QI g [(q4, .inl (g.2 0, 40, .inl f5)), (q1, .inr (5, [w2, .ref q4]))] sz x7 (fun _ => [(q4, .inl (g.2 0, 40, .inl f5)), (q1, .inr (5, [w2, .ref q4]))])) 0 0 (va_A [(q4, .inl (g.2 0, 40, .inl f5)), (q1, .inr (5, [w2, .ref q4]))] sz) := by
  refine ofN (by decide) (Nat.le_of_ble_eq_true rfl) rfl ?_
  intro p e s m args below meth c A ls hAe hsz hx hb hml hr hlocks hin hown hE hP hD hA hS hl
  have hown : s.vm.findClass RX3 = some m.cls := hown
  refine lv_iload_n hx hb dX3_figure_0 rfl (lv_at hl 1 rfl) ?_
  refine lv_iconst (v := 5) hx hb dX3_figure_1 (by decide) ?_
  refine x_imul (v := 10) hx hb dX3_figure_2 (by decide) ?_
  refine lv_iload_n hx hb dX3_figure_3 rfl (lv_at hl 2 rfl) ?_
  refine x_iadd (v := 11) hx hb dX3_figure_4 (by decide) ?_
  refine lv_istore_n (lv' := [(3, .int 11), (0, .ref q1), (1, .int 2), (2, .int 1)]) hx hb dX3_figure_5 rfl hl (by decide) rfl (fun ls hl => ?_)
  refine lv_iload_n hx hb dX3_figure_6 rfl (lv_at hl 0 rfl) ?_
  refine lv_if_lt (tgt := 28) hx hb dX3_figure_7 (by decide) (fun h => absurd h (by decide)) (fun _ => ?_)
  refine lv_iload_n hx hb dX3_figure_10 rfl (lv_at hl 0 rfl) ?_
  refine lv_aload_n hx hb dX3_figure_11 rfl (lv_at hl 1 rfl) ?_
  refine gf_RX3_15 hx hb hown hE hP 1 rfl rfl dX3_figure_12 ?_
  refine x_aleni (v := 40) hx hb hE hP 0 rfl rfl dX3_figure_15 ?_
  refine lv_icmp_ge (tgt := 28) hx hb dX3_figure_16 (by decide) (fun h => absurd h (by decide)) (fun _ => ?_)
  refine lv_aload_n hx hb dX3_figure_19 rfl (lv_at hl 1 rfl) ?_
  refine gf_RX3_15 hx hb hown hE hP 1 rfl rfl dX3_figure_20 ?_
  refine lv_iload_n hx hb dX3_figure_23 rfl (lv_at hl 0 rfl) ?_
  refine x_iald (v := x7) hx hb hE hP 0 rfl 11 (x_in (by decide)) (by decide) hf6 dX3_figure_24 ?_
  refine lv_goto (tgt := 29) hx hb dX3_figure_25 (by decide) ?_
  exact x_zret hx hb hr rfl rfl hlocks hP hD hS hAe hsz (Nat.le_of_ble_eq_true rfl) (Nat.le_of_ble_eq_true rfl) (fun _ => 0) [0, 1] (by decide) rfl dX3_figure_29

set_option maxHeartbeats 4000000 in
set_option maxRecDepth 100000 in
theorem c272_X3_measure (l : Launch) (g : gG) (q1 q4 q5 : Nat) (x17 : Int32) (f6 : Nat → Int32) (f15 : Nat → Int32) (hf7 : f6 0 = 0) (hf8 : f6 2 = 0) (hf9 : f6 3 = 0) (hf10 : f6 5 = 0) (hf11 : f6 6 = 0) (hf12 : f6 7 = 0) (hf13 : f6 8 = 0) (hf14 : f6 10 = 1) (hf16 : f15 98 = x17) (hf18 : f15 96 = 0) (hf19 : f6 13 = 0) (hf21 : f6 15 = 0) (hf22 : f6 16 = 0) (hf23 : f6 17 = 0) (hf24 : f6 18 = 0) (hf25 : f6 20 = 0) (hf26 : f6 21 = 0) (hf27 : f6 22 = 0) (hf28 : f6 23 = 0) (hf29 : f6 25 = 0) (hf30 : f6 26 = 0) (hf31 : f6 27 = 0) (hf32 : f6 28 = 0) (hf33 : f6 30 = 0) (hf34 : f6 31 = 0) (hf35 : f6 32 = 0) (hf36 : f6 33 = 0) (hf37 : f6 35 = 0) (hf38 : f6 36 = 0) (hf39 : f6 37 = 0) (hf40 : f6 38 = 0) (h20 : x17 ≤ 20000) (sz : Nat) : Met l yX3_measure [Cond.code yX3_measure cX3_measure 2 (some .boolean)] ({ frames := 3, cells := 0, slots := 0, locals := 75 } : Room) (va_Pc [.ref q1] (PX g sz [(q4, .inl (g.2 0, 384, .inl f15)), (q5, .inl (g.2 0, 40, .inl f6)), (q1, .inr (5, [.ref q4, .ref q5]))])) (QI g [(q4, .inl (g.2 0, 384, .inl f15)), (q5, .inl (g.2 0, 40, .inl f6)), (q1, .inr (5, [.ref q4, .ref q5]))] sz 1 (fun _ => [(q4, .inl (g.2 0, 384, .inl f15)), (q5, .inl (g.2 0, 40, .inl (upd (upd (upd (upd (upd (upd (upd (upd (upd (upd (upd f6 1 0) 4 1) 9 1) 11 x17) 12 1) 14 1) 19 1) 24 1) 29 1) 34 1) 39 1))), (q1, .inr (5, [.ref q4, .ref q5]))])) 0 0 (va_A [(q4, .inl (g.2 0, 384, .inl f15)), (q5, .inl (g.2 0, 40, .inl f6)), (q1, .inr (5, [.ref q4, .ref q5]))] sz) := by
  refine ofN (by decide) (Nat.le_of_ble_eq_true rfl) rfl ?_
  intro p e s m args below meth c A ls hAe hsz hx hb hml hr hlocks hin hown hE hP hD hA hS hl
  have hown : s.vm.findClass RX3 = some m.cls := hown
  refine lv_iconst (v := 0) hx hb dX3_measure_0 (by decide) ?_
  refine lv_istore_n (lv' := [(1, .int 0), (0, .ref q1)]) hx hb dX3_measure_1 rfl hl (by decide) rfl (fun ls hl => ?_)
  refine lv_iload_n hx hb dX3_measure_2 rfl (lv_at hl 0 rfl) ?_
  refine lv_bipush (v := 8) hx hb dX3_measure_3 (by decide) ?_
  refine lv_icmp_ge (tgt := 33) hx hb dX3_measure_5 (by decide) (fun h => absurd h (by decide)) (fun _ => ?_)
  refine lv_aload_n hx hb dX3_measure_8 rfl (lv_at hl 1 rfl) ?_
  refine lv_iload_n hx hb dX3_measure_9 rfl (lv_at hl 0 rfl) ?_
  refine g_v (wr := [(q4, .inl (g.2 0, 384, .inl f15))]) (rV (rest := []) hx hb hml hown hE hP hD 2 rfl rfl (c231_X3_measureOne l g q1 q5 (.ref q4) f6 (hf7) (hf8) (hf9) s.heap.size) (kV_X3_measureOne hE (e698 hE) rfl rfl ⟨(Nat.le_of_ble_eq_true rfl), (Nat.le_of_ble_eq_true rfl)⟩) [1, 2] rfl (by decide) rfl hl.1 rfl (lv_room (Nat.le_of_ble_eq_true rfl)) dX3_measure_10 ⟨(Nat.le_of_ble_eq_true rfl), (Nat.le_of_ble_eq_true rfl)⟩) hP hD hS hA [1, 2] [0] rfl rfl (by decide) (by decide) (fun u1 H locs hP hD hS => ?_)
  have hP : va_P g.1 vwCl [(q4, .inl (g.2 0, 384, .inl f15)), (q5, .inl (g.2 0, 40, .inl (upd (upd f6 1 0) 4 1))), (q1, .inr (5, [.ref q4, .ref q5]))] H := hP
  have hD : va_D A [(q4, .inl (g.2 0, 384, .inl f15)), (q5, .inl (g.2 0, 40, .inl (upd (upd f6 1 0) 4 1))), (q1, .inr (5, [.ref q4, .ref q5]))] := hD
  refine lv_aload_n hx hb dX3_measure_13 rfl (lv_at hl 1 rfl) ?_
  refine lv_iload_n hx hb dX3_measure_14 rfl (lv_at hl 0 rfl) ?_
  refine lv_iconst (v := 1) hx hb dX3_measure_15 (by decide) ?_
  refine g_i (wr := [(q4, .inl (g.2 0, 384, .inl f15))]) (rV (rest := []) hx hb hml hown hE hP hD 2 rfl rfl (c145_X3_figure l g q1 q5 0 (.ref q4) (upd (upd f6 1 0) 4 1) (((pk_un (by decide)).trans pk_us)) H.size) (kV_X3_figure hE (e343 hE) rfl rfl ⟨(Nat.le_of_ble_eq_true rfl), (Nat.le_of_ble_eq_true rfl)⟩) [1, 2] rfl (by decide) rfl hl.1 rfl (lv_room (Nat.le_of_ble_eq_true rfl)) dX3_measure_16 ⟨(Nat.le_of_ble_eq_true rfl), (Nat.le_of_ble_eq_true rfl)⟩) hP hD hS hA [1, 2] [0] rfl rfl (by decide) (by decide) (fun u2 H locs hP hD hS => ?_)
  have hP : va_P g.1 vwCl [(q4, .inl (g.2 0, 384, .inl f15)), (q5, .inl (g.2 0, 40, .inl (upd (upd f6 1 0) 4 1))), (q1, .inr (5, [.ref q4, .ref q5]))] H := hP
  have hD : va_D A [(q4, .inl (g.2 0, 384, .inl f15)), (q5, .inl (g.2 0, 40, .inl (upd (upd f6 1 0) 4 1))), (q1, .inr (5, [.ref q4, .ref q5]))] := hD
  refine lv_sipush (v := 20000) hx hb dX3_measure_19 (by decide) ?_
  refine lv_icmp_le (tgt := 27) hx hb dX3_measure_22 (by decide) (fun _ => ?_) (fun h => absurd (by decide) h)
  refine lv_iinc (v := 1) (lv' := [(1, .int 1), (0, .ref q1)]) hx hb dX3_measure_27 hl (k := 0) rfl (by decide) (by decide) rfl (fun ls hl => ?_)
  refine lv_goto (tgt := 2) hx hb dX3_measure_30 (by decide) ?_
  refine lv_iload_n hx hb dX3_measure_2 rfl (lv_at hl 0 rfl) ?_
  refine lv_bipush (v := 8) hx hb dX3_measure_3 (by decide) ?_
  refine lv_icmp_ge (tgt := 33) hx hb dX3_measure_5 (by decide) (fun h => absurd h (by decide)) (fun _ => ?_)
  refine lv_aload_n hx hb dX3_measure_8 rfl (lv_at hl 1 rfl) ?_
  refine lv_iload_n hx hb dX3_measure_9 rfl (lv_at hl 0 rfl) ?_
  refine g_v (wr := [(q4, .inl (g.2 0, 384, .inl f15))]) (rV (rest := []) hx hb hml hown hE hP hD 2 rfl rfl (c150_X3_measureOne l g q1 q5 (.ref q4) (upd (upd f6 1 0) 4 1) (((pk_un (by decide)).trans ((pk_un (by decide)).trans hf10))) (((pk_un (by decide)).trans ((pk_un (by decide)).trans hf11))) (((pk_un (by decide)).trans ((pk_un (by decide)).trans hf12))) (((pk_un (by decide)).trans ((pk_un (by decide)).trans hf13))) H.size) (kV_X3_measureOne hE (e698 hE) rfl rfl ⟨(Nat.le_of_ble_eq_true rfl), (Nat.le_of_ble_eq_true rfl)⟩) [1, 2] rfl (by decide) rfl hl.1 rfl (lv_room (Nat.le_of_ble_eq_true rfl)) dX3_measure_10 ⟨(Nat.le_of_ble_eq_true rfl), (Nat.le_of_ble_eq_true rfl)⟩) hP hD hS hA [1, 2] [0] rfl rfl (by decide) (by decide) (fun u3 H locs hP hD hS => ?_)
  have hP : va_P g.1 vwCl [(q4, .inl (g.2 0, 384, .inl f15)), (q5, .inl (g.2 0, 40, .inl (upd (upd (upd f6 1 0) 4 1) 9 1))), (q1, .inr (5, [.ref q4, .ref q5]))] H := hP
  have hD : va_D A [(q4, .inl (g.2 0, 384, .inl f15)), (q5, .inl (g.2 0, 40, .inl (upd (upd (upd f6 1 0) 4 1) 9 1))), (q1, .inr (5, [.ref q4, .ref q5]))] := hD
  refine lv_aload_n hx hb dX3_measure_13 rfl (lv_at hl 1 rfl) ?_
  refine lv_iload_n hx hb dX3_measure_14 rfl (lv_at hl 0 rfl) ?_
  refine lv_iconst (v := 1) hx hb dX3_measure_15 (by decide) ?_
  refine g_i (wr := [(q4, .inl (g.2 0, 384, .inl f15))]) (rV (rest := []) hx hb hml hown hE hP hD 2 rfl rfl (c151_X3_figure l g q1 q5 (.ref q4) (upd (upd (upd f6 1 0) 4 1) 9 1) (((pk_un (by decide)).trans ((pk_un (by decide)).trans ((pk_un (by decide)).trans hf11)))) H.size) (kV_X3_figure hE (e343 hE) rfl rfl ⟨(Nat.le_of_ble_eq_true rfl), (Nat.le_of_ble_eq_true rfl)⟩) [1, 2] rfl (by decide) rfl hl.1 rfl (lv_room (Nat.le_of_ble_eq_true rfl)) dX3_measure_16 ⟨(Nat.le_of_ble_eq_true rfl), (Nat.le_of_ble_eq_true rfl)⟩) hP hD hS hA [1, 2] [0] rfl rfl (by decide) (by decide) (fun u4 H locs hP hD hS => ?_)
  have hP : va_P g.1 vwCl [(q4, .inl (g.2 0, 384, .inl f15)), (q5, .inl (g.2 0, 40, .inl (upd (upd (upd f6 1 0) 4 1) 9 1))), (q1, .inr (5, [.ref q4, .ref q5]))] H := hP
  have hD : va_D A [(q4, .inl (g.2 0, 384, .inl f15)), (q5, .inl (g.2 0, 40, .inl (upd (upd (upd f6 1 0) 4 1) 9 1))), (q1, .inr (5, [.ref q4, .ref q5]))] := hD
  refine lv_sipush (v := 20000) hx hb dX3_measure_19 (by decide) ?_
  refine lv_icmp_le (tgt := 27) hx hb dX3_measure_22 (by decide) (fun _ => ?_) (fun h => absurd (by decide) h)
  refine lv_iinc (v := 2) (lv' := [(1, .int 2), (0, .ref q1)]) hx hb dX3_measure_27 hl (k := 0) rfl (by decide) (by decide) rfl (fun ls hl => ?_)
  refine lv_goto (tgt := 2) hx hb dX3_measure_30 (by decide) ?_
  refine lv_iload_n hx hb dX3_measure_2 rfl (lv_at hl 0 rfl) ?_
  refine lv_bipush (v := 8) hx hb dX3_measure_3 (by decide) ?_
  refine lv_icmp_ge (tgt := 33) hx hb dX3_measure_5 (by decide) (fun h => absurd h (by decide)) (fun _ => ?_)
  refine lv_aload_n hx hb dX3_measure_8 rfl (lv_at hl 1 rfl) ?_
  refine lv_iload_n hx hb dX3_measure_9 rfl (lv_at hl 0 rfl) ?_
  refine g_v (wr := []) (rV (rest := []) hx hb hml hown hE hP hD 2 rfl rfl (c270_X3_measureOne l g q1 q5 q4 x17 (upd (upd (upd f6 1 0) 4 1) 9 1) f15 (((pk_un (by decide)).trans ((pk_un (by decide)).trans ((pk_un (by decide)).trans hf14)))) (hf16) (hf18) (((pk_un (by decide)).trans ((pk_un (by decide)).trans ((pk_un (by decide)).trans hf19)))) H.size) (kV_X3_measureOne hE (e698 hE) rfl rfl ⟨(Nat.le_of_ble_eq_true rfl), (Nat.le_of_ble_eq_true rfl)⟩) [0, 1, 2] rfl (by decide) rfl hl.1 rfl (lv_room (Nat.le_of_ble_eq_true rfl)) dX3_measure_10 ⟨(Nat.le_of_ble_eq_true rfl), (Nat.le_of_ble_eq_true rfl)⟩) hP hD hS hA [0, 1, 2] [] rfl rfl (by decide) (by decide) (fun u5 H locs hP hD hS => ?_)
  have hP : va_P g.1 vwCl [(q4, .inl (g.2 0, 384, .inl f15)), (q5, .inl (g.2 0, 40, .inl (upd (upd (upd (upd (upd (upd f6 1 0) 4 1) 9 1) 11 x17) 12 1) 14 1))), (q1, .inr (5, [.ref q4, .ref q5]))] H := hP
  have hD : va_D A [(q4, .inl (g.2 0, 384, .inl f15)), (q5, .inl (g.2 0, 40, .inl (upd (upd (upd (upd (upd (upd f6 1 0) 4 1) 9 1) 11 x17) 12 1) 14 1))), (q1, .inr (5, [.ref q4, .ref q5]))] := hD
  refine lv_aload_n hx hb dX3_measure_13 rfl (lv_at hl 1 rfl) ?_
  refine lv_iload_n hx hb dX3_measure_14 rfl (lv_at hl 0 rfl) ?_
  refine lv_iconst (v := 1) hx hb dX3_measure_15 (by decide) ?_
  refine g_i (wr := [(q4, .inl (g.2 0, 384, .inl f15))]) (rV (rest := []) hx hb hml hown hE hP hD 2 rfl rfl (c271_X3_figure l g q1 q5 x17 (.ref q4) (upd (upd (upd (upd (upd (upd f6 1 0) 4 1) 9 1) 11 x17) 12 1) 14 1) (((pk_un (by decide)).trans ((pk_un (by decide)).trans pk_us))) H.size) (kV_X3_figure hE (e343 hE) rfl rfl ⟨(Nat.le_of_ble_eq_true rfl), (Nat.le_of_ble_eq_true rfl)⟩) [1, 2] rfl (by decide) rfl hl.1 rfl (lv_room (Nat.le_of_ble_eq_true rfl)) dX3_measure_16 ⟨(Nat.le_of_ble_eq_true rfl), (Nat.le_of_ble_eq_true rfl)⟩) hP hD hS hA [1, 2] [0] rfl rfl (by decide) (by decide) (fun u6 H locs hP hD hS => ?_)
  have hP : va_P g.1 vwCl [(q4, .inl (g.2 0, 384, .inl f15)), (q5, .inl (g.2 0, 40, .inl (upd (upd (upd (upd (upd (upd f6 1 0) 4 1) 9 1) 11 x17) 12 1) 14 1))), (q1, .inr (5, [.ref q4, .ref q5]))] H := hP
  have hD : va_D A [(q4, .inl (g.2 0, 384, .inl f15)), (q5, .inl (g.2 0, 40, .inl (upd (upd (upd (upd (upd (upd f6 1 0) 4 1) 9 1) 11 x17) 12 1) 14 1))), (q1, .inr (5, [.ref q4, .ref q5]))] := hD
  refine lv_sipush (v := 20000) hx hb dX3_measure_19 (by decide) ?_
  refine lv_icmp_le (tgt := 27) hx hb dX3_measure_22 (by decide) (fun _ => ?_) (fun h => absurd h20 h)
  refine lv_iinc (v := 3) (lv' := [(1, .int 3), (0, .ref q1)]) hx hb dX3_measure_27 hl (k := 0) rfl (by decide) (by decide) rfl (fun ls hl => ?_)
  refine lv_goto (tgt := 2) hx hb dX3_measure_30 (by decide) ?_
  refine lv_iload_n hx hb dX3_measure_2 rfl (lv_at hl 0 rfl) ?_
  refine lv_bipush (v := 8) hx hb dX3_measure_3 (by decide) ?_
  refine lv_icmp_ge (tgt := 33) hx hb dX3_measure_5 (by decide) (fun h => absurd h (by decide)) (fun _ => ?_)
  refine lv_aload_n hx hb dX3_measure_8 rfl (lv_at hl 1 rfl) ?_
  refine lv_iload_n hx hb dX3_measure_9 rfl (lv_at hl 0 rfl) ?_
  refine g_v (wr := [(q4, .inl (g.2 0, 384, .inl f15))]) (rV (rest := []) hx hb hml hown hE hP hD 2 rfl rfl (c162_X3_measureOne l g q1 q5 (.ref q4) (upd (upd (upd (upd (upd (upd f6 1 0) 4 1) 9 1) 11 x17) 12 1) 14 1) (((pk_un (by decide)).trans ((pk_un (by decide)).trans ((pk_un (by decide)).trans ((pk_un (by decide)).trans ((pk_un (by decide)).trans ((pk_un (by decide)).trans hf21))))))) (((pk_un (by decide)).trans ((pk_un (by decide)).trans ((pk_un (by decide)).trans ((pk_un (by decide)).trans ((pk_un (by decide)).trans ((pk_un (by decide)).trans hf22))))))) (((pk_un (by decide)).trans ((pk_un (by decide)).trans ((pk_un (by decide)).trans ((pk_un (by decide)).trans ((pk_un (by decide)).trans ((pk_un (by decide)).trans hf23))))))) (((pk_un (by decide)).trans ((pk_un (by decide)).trans ((pk_un (by decide)).trans ((pk_un (by decide)).trans ((pk_un (by decide)).trans ((pk_un (by decide)).trans hf24))))))) H.size) (kV_X3_measureOne hE (e698 hE) rfl rfl ⟨(Nat.le_of_ble_eq_true rfl), (Nat.le_of_ble_eq_true rfl)⟩) [1, 2] rfl (by decide) rfl hl.1 rfl (lv_room (Nat.le_of_ble_eq_true rfl)) dX3_measure_10 ⟨(Nat.le_of_ble_eq_true rfl), (Nat.le_of_ble_eq_true rfl)⟩) hP hD hS hA [1, 2] [0] rfl rfl (by decide) (by decide) (fun u7 H locs hP hD hS => ?_)
  have hP : va_P g.1 vwCl [(q4, .inl (g.2 0, 384, .inl f15)), (q5, .inl (g.2 0, 40, .inl (upd (upd (upd (upd (upd (upd (upd f6 1 0) 4 1) 9 1) 11 x17) 12 1) 14 1) 19 1))), (q1, .inr (5, [.ref q4, .ref q5]))] H := hP
  have hD : va_D A [(q4, .inl (g.2 0, 384, .inl f15)), (q5, .inl (g.2 0, 40, .inl (upd (upd (upd (upd (upd (upd (upd f6 1 0) 4 1) 9 1) 11 x17) 12 1) 14 1) 19 1))), (q1, .inr (5, [.ref q4, .ref q5]))] := hD
  refine lv_aload_n hx hb dX3_measure_13 rfl (lv_at hl 1 rfl) ?_
  refine lv_iload_n hx hb dX3_measure_14 rfl (lv_at hl 0 rfl) ?_
  refine lv_iconst (v := 1) hx hb dX3_measure_15 (by decide) ?_
  refine g_i (wr := [(q4, .inl (g.2 0, 384, .inl f15))]) (rV (rest := []) hx hb hml hown hE hP hD 2 rfl rfl (c163_X3_figure l g q1 q5 (.ref q4) (upd (upd (upd (upd (upd (upd (upd f6 1 0) 4 1) 9 1) 11 x17) 12 1) 14 1) 19 1) (((pk_un (by decide)).trans ((pk_un (by decide)).trans ((pk_un (by decide)).trans ((pk_un (by decide)).trans ((pk_un (by decide)).trans ((pk_un (by decide)).trans ((pk_un (by decide)).trans hf22)))))))) H.size) (kV_X3_figure hE (e343 hE) rfl rfl ⟨(Nat.le_of_ble_eq_true rfl), (Nat.le_of_ble_eq_true rfl)⟩) [1, 2] rfl (by decide) rfl hl.1 rfl (lv_room (Nat.le_of_ble_eq_true rfl)) dX3_measure_16 ⟨(Nat.le_of_ble_eq_true rfl), (Nat.le_of_ble_eq_true rfl)⟩) hP hD hS hA [1, 2] [0] rfl rfl (by decide) (by decide) (fun u8 H locs hP hD hS => ?_)
  have hP : va_P g.1 vwCl [(q4, .inl (g.2 0, 384, .inl f15)), (q5, .inl (g.2 0, 40, .inl (upd (upd (upd (upd (upd (upd (upd f6 1 0) 4 1) 9 1) 11 x17) 12 1) 14 1) 19 1))), (q1, .inr (5, [.ref q4, .ref q5]))] H := hP
  have hD : va_D A [(q4, .inl (g.2 0, 384, .inl f15)), (q5, .inl (g.2 0, 40, .inl (upd (upd (upd (upd (upd (upd (upd f6 1 0) 4 1) 9 1) 11 x17) 12 1) 14 1) 19 1))), (q1, .inr (5, [.ref q4, .ref q5]))] := hD
  refine lv_sipush (v := 20000) hx hb dX3_measure_19 (by decide) ?_
  refine lv_icmp_le (tgt := 27) hx hb dX3_measure_22 (by decide) (fun _ => ?_) (fun h => absurd (by decide) h)
  refine lv_iinc (v := 4) (lv' := [(1, .int 4), (0, .ref q1)]) hx hb dX3_measure_27 hl (k := 0) rfl (by decide) (by decide) rfl (fun ls hl => ?_)
  refine lv_goto (tgt := 2) hx hb dX3_measure_30 (by decide) ?_
  refine lv_iload_n hx hb dX3_measure_2 rfl (lv_at hl 0 rfl) ?_
  refine lv_bipush (v := 8) hx hb dX3_measure_3 (by decide) ?_
  refine lv_icmp_ge (tgt := 33) hx hb dX3_measure_5 (by decide) (fun h => absurd h (by decide)) (fun _ => ?_)
  refine lv_aload_n hx hb dX3_measure_8 rfl (lv_at hl 1 rfl) ?_
  refine lv_iload_n hx hb dX3_measure_9 rfl (lv_at hl 0 rfl) ?_
  refine g_v (wr := [(q4, .inl (g.2 0, 384, .inl f15))]) (rV (rest := []) hx hb hml hown hE hP hD 2 rfl rfl (c168_X3_measureOne l g q1 q5 (.ref q4) (upd (upd (upd (upd (upd (upd (upd f6 1 0) 4 1) 9 1) 11 x17) 12 1) 14 1) 19 1) (((pk_un (by decide)).trans ((pk_un (by decide)).trans ((pk_un (by decide)).trans ((pk_un (by decide)).trans ((pk_un (by decide)).trans ((pk_un (by decide)).trans ((pk_un (by decide)).trans hf25)))))))) (((pk_un (by decide)).trans ((pk_un (by decide)).trans ((pk_un (by decide)).trans ((pk_un (by decide)).trans ((pk_un (by decide)).trans ((pk_un (by decide)).trans ((pk_un (by decide)).trans hf26)))))))) (((pk_un (by decide)).trans ((pk_un (by decide)).trans ((pk_un (by decide)).trans ((pk_un (by decide)).trans ((pk_un (by decide)).trans ((pk_un (by decide)).trans ((pk_un (by decide)).trans hf27)))))))) (((pk_un (by decide)).trans ((pk_un (by decide)).trans ((pk_un (by decide)).trans ((pk_un (by decide)).trans ((pk_un (by decide)).trans ((pk_un (by decide)).trans ((pk_un (by decide)).trans hf28)))))))) H.size) (kV_X3_measureOne hE (e698 hE) rfl rfl ⟨(Nat.le_of_ble_eq_true rfl), (Nat.le_of_ble_eq_true rfl)⟩) [1, 2] rfl (by decide) rfl hl.1 rfl (lv_room (Nat.le_of_ble_eq_true rfl)) dX3_measure_10 ⟨(Nat.le_of_ble_eq_true rfl), (Nat.le_of_ble_eq_true rfl)⟩) hP hD hS hA [1, 2] [0] rfl rfl (by decide) (by decide) (fun u9 H locs hP hD hS => ?_)
  have hP : va_P g.1 vwCl [(q4, .inl (g.2 0, 384, .inl f15)), (q5, .inl (g.2 0, 40, .inl (upd (upd (upd (upd (upd (upd (upd (upd f6 1 0) 4 1) 9 1) 11 x17) 12 1) 14 1) 19 1) 24 1))), (q1, .inr (5, [.ref q4, .ref q5]))] H := hP
  have hD : va_D A [(q4, .inl (g.2 0, 384, .inl f15)), (q5, .inl (g.2 0, 40, .inl (upd (upd (upd (upd (upd (upd (upd (upd f6 1 0) 4 1) 9 1) 11 x17) 12 1) 14 1) 19 1) 24 1))), (q1, .inr (5, [.ref q4, .ref q5]))] := hD
  refine lv_aload_n hx hb dX3_measure_13 rfl (lv_at hl 1 rfl) ?_
  refine lv_iload_n hx hb dX3_measure_14 rfl (lv_at hl 0 rfl) ?_
  refine lv_iconst (v := 1) hx hb dX3_measure_15 (by decide) ?_
  refine g_i (wr := [(q4, .inl (g.2 0, 384, .inl f15))]) (rV (rest := []) hx hb hml hown hE hP hD 2 rfl rfl (c169_X3_figure l g q1 q5 (.ref q4) (upd (upd (upd (upd (upd (upd (upd (upd f6 1 0) 4 1) 9 1) 11 x17) 12 1) 14 1) 19 1) 24 1) (((pk_un (by decide)).trans ((pk_un (by decide)).trans ((pk_un (by decide)).trans ((pk_un (by decide)).trans ((pk_un (by decide)).trans ((pk_un (by decide)).trans ((pk_un (by decide)).trans ((pk_un (by decide)).trans hf26))))))))) H.size) (kV_X3_figure hE (e343 hE) rfl rfl ⟨(Nat.le_of_ble_eq_true rfl), (Nat.le_of_ble_eq_true rfl)⟩) [1, 2] rfl (by decide) rfl hl.1 rfl (lv_room (Nat.le_of_ble_eq_true rfl)) dX3_measure_16 ⟨(Nat.le_of_ble_eq_true rfl), (Nat.le_of_ble_eq_true rfl)⟩) hP hD hS hA [1, 2] [0] rfl rfl (by decide) (by decide) (fun u10 H locs hP hD hS => ?_)
  have hP : va_P g.1 vwCl [(q4, .inl (g.2 0, 384, .inl f15)), (q5, .inl (g.2 0, 40, .inl (upd (upd (upd (upd (upd (upd (upd (upd f6 1 0) 4 1) 9 1) 11 x17) 12 1) 14 1) 19 1) 24 1))), (q1, .inr (5, [.ref q4, .ref q5]))] H := hP
  have hD : va_D A [(q4, .inl (g.2 0, 384, .inl f15)), (q5, .inl (g.2 0, 40, .inl (upd (upd (upd (upd (upd (upd (upd (upd f6 1 0) 4 1) 9 1) 11 x17) 12 1) 14 1) 19 1) 24 1))), (q1, .inr (5, [.ref q4, .ref q5]))] := hD
  refine lv_sipush (v := 20000) hx hb dX3_measure_19 (by decide) ?_
  refine lv_icmp_le (tgt := 27) hx hb dX3_measure_22 (by decide) (fun _ => ?_) (fun h => absurd (by decide) h)
  refine lv_iinc (v := 5) (lv' := [(1, .int 5), (0, .ref q1)]) hx hb dX3_measure_27 hl (k := 0) rfl (by decide) (by decide) rfl (fun ls hl => ?_)
  refine lv_goto (tgt := 2) hx hb dX3_measure_30 (by decide) ?_
  refine lv_iload_n hx hb dX3_measure_2 rfl (lv_at hl 0 rfl) ?_
  refine lv_bipush (v := 8) hx hb dX3_measure_3 (by decide) ?_
  refine lv_icmp_ge (tgt := 33) hx hb dX3_measure_5 (by decide) (fun h => absurd h (by decide)) (fun _ => ?_)
  refine lv_aload_n hx hb dX3_measure_8 rfl (lv_at hl 1 rfl) ?_
  refine lv_iload_n hx hb dX3_measure_9 rfl (lv_at hl 0 rfl) ?_
  refine g_v (wr := [(q4, .inl (g.2 0, 384, .inl f15))]) (rV (rest := []) hx hb hml hown hE hP hD 2 rfl rfl (c174_X3_measureOne l g q1 q5 (.ref q4) (upd (upd (upd (upd (upd (upd (upd (upd f6 1 0) 4 1) 9 1) 11 x17) 12 1) 14 1) 19 1) 24 1) (((pk_un (by decide)).trans ((pk_un (by decide)).trans ((pk_un (by decide)).trans ((pk_un (by decide)).trans ((pk_un (by decide)).trans ((pk_un (by decide)).trans ((pk_un (by decide)).trans ((pk_un (by decide)).trans hf29))))))))) (((pk_un (by decide)).trans ((pk_un (by decide)).trans ((pk_un (by decide)).trans ((pk_un (by decide)).trans ((pk_un (by decide)).trans ((pk_un (by decide)).trans ((pk_un (by decide)).trans ((pk_un (by decide)).trans hf30))))))))) (((pk_un (by decide)).trans ((pk_un (by decide)).trans ((pk_un (by decide)).trans ((pk_un (by decide)).trans ((pk_un (by decide)).trans ((pk_un (by decide)).trans ((pk_un (by decide)).trans ((pk_un (by decide)).trans hf31))))))))) (((pk_un (by decide)).trans ((pk_un (by decide)).trans ((pk_un (by decide)).trans ((pk_un (by decide)).trans ((pk_un (by decide)).trans ((pk_un (by decide)).trans ((pk_un (by decide)).trans ((pk_un (by decide)).trans hf32))))))))) H.size) (kV_X3_measureOne hE (e698 hE) rfl rfl ⟨(Nat.le_of_ble_eq_true rfl), (Nat.le_of_ble_eq_true rfl)⟩) [1, 2] rfl (by decide) rfl hl.1 rfl (lv_room (Nat.le_of_ble_eq_true rfl)) dX3_measure_10 ⟨(Nat.le_of_ble_eq_true rfl), (Nat.le_of_ble_eq_true rfl)⟩) hP hD hS hA [1, 2] [0] rfl rfl (by decide) (by decide) (fun u11 H locs hP hD hS => ?_)
  have hP : va_P g.1 vwCl [(q4, .inl (g.2 0, 384, .inl f15)), (q5, .inl (g.2 0, 40, .inl (upd (upd (upd (upd (upd (upd (upd (upd (upd f6 1 0) 4 1) 9 1) 11 x17) 12 1) 14 1) 19 1) 24 1) 29 1))), (q1, .inr (5, [.ref q4, .ref q5]))] H := hP
  have hD : va_D A [(q4, .inl (g.2 0, 384, .inl f15)), (q5, .inl (g.2 0, 40, .inl (upd (upd (upd (upd (upd (upd (upd (upd (upd f6 1 0) 4 1) 9 1) 11 x17) 12 1) 14 1) 19 1) 24 1) 29 1))), (q1, .inr (5, [.ref q4, .ref q5]))] := hD
  refine lv_aload_n hx hb dX3_measure_13 rfl (lv_at hl 1 rfl) ?_
  refine lv_iload_n hx hb dX3_measure_14 rfl (lv_at hl 0 rfl) ?_
  refine lv_iconst (v := 1) hx hb dX3_measure_15 (by decide) ?_
  refine g_i (wr := [(q4, .inl (g.2 0, 384, .inl f15))]) (rV (rest := []) hx hb hml hown hE hP hD 2 rfl rfl (c175_X3_figure l g q1 q5 (.ref q4) (upd (upd (upd (upd (upd (upd (upd (upd (upd f6 1 0) 4 1) 9 1) 11 x17) 12 1) 14 1) 19 1) 24 1) 29 1) (((pk_un (by decide)).trans ((pk_un (by decide)).trans ((pk_un (by decide)).trans ((pk_un (by decide)).trans ((pk_un (by decide)).trans ((pk_un (by decide)).trans ((pk_un (by decide)).trans ((pk_un (by decide)).trans ((pk_un (by decide)).trans hf30)))))))))) H.size) (kV_X3_figure hE (e343 hE) rfl rfl ⟨(Nat.le_of_ble_eq_true rfl), (Nat.le_of_ble_eq_true rfl)⟩) [1, 2] rfl (by decide) rfl hl.1 rfl (lv_room (Nat.le_of_ble_eq_true rfl)) dX3_measure_16 ⟨(Nat.le_of_ble_eq_true rfl), (Nat.le_of_ble_eq_true rfl)⟩) hP hD hS hA [1, 2] [0] rfl rfl (by decide) (by decide) (fun u12 H locs hP hD hS => ?_)
  have hP : va_P g.1 vwCl [(q4, .inl (g.2 0, 384, .inl f15)), (q5, .inl (g.2 0, 40, .inl (upd (upd (upd (upd (upd (upd (upd (upd (upd f6 1 0) 4 1) 9 1) 11 x17) 12 1) 14 1) 19 1) 24 1) 29 1))), (q1, .inr (5, [.ref q4, .ref q5]))] H := hP
  have hD : va_D A [(q4, .inl (g.2 0, 384, .inl f15)), (q5, .inl (g.2 0, 40, .inl (upd (upd (upd (upd (upd (upd (upd (upd (upd f6 1 0) 4 1) 9 1) 11 x17) 12 1) 14 1) 19 1) 24 1) 29 1))), (q1, .inr (5, [.ref q4, .ref q5]))] := hD
  refine lv_sipush (v := 20000) hx hb dX3_measure_19 (by decide) ?_
  refine lv_icmp_le (tgt := 27) hx hb dX3_measure_22 (by decide) (fun _ => ?_) (fun h => absurd (by decide) h)
  refine lv_iinc (v := 6) (lv' := [(1, .int 6), (0, .ref q1)]) hx hb dX3_measure_27 hl (k := 0) rfl (by decide) (by decide) rfl (fun ls hl => ?_)
  refine lv_goto (tgt := 2) hx hb dX3_measure_30 (by decide) ?_
  refine lv_iload_n hx hb dX3_measure_2 rfl (lv_at hl 0 rfl) ?_
  refine lv_bipush (v := 8) hx hb dX3_measure_3 (by decide) ?_
  refine lv_icmp_ge (tgt := 33) hx hb dX3_measure_5 (by decide) (fun h => absurd h (by decide)) (fun _ => ?_)
  refine lv_aload_n hx hb dX3_measure_8 rfl (lv_at hl 1 rfl) ?_
  refine lv_iload_n hx hb dX3_measure_9 rfl (lv_at hl 0 rfl) ?_
  refine g_v (wr := [(q4, .inl (g.2 0, 384, .inl f15))]) (rV (rest := []) hx hb hml hown hE hP hD 2 rfl rfl (c180_X3_measureOne l g q1 q5 (.ref q4) (upd (upd (upd (upd (upd (upd (upd (upd (upd f6 1 0) 4 1) 9 1) 11 x17) 12 1) 14 1) 19 1) 24 1) 29 1) (((pk_un (by decide)).trans ((pk_un (by decide)).trans ((pk_un (by decide)).trans ((pk_un (by decide)).trans ((pk_un (by decide)).trans ((pk_un (by decide)).trans ((pk_un (by decide)).trans ((pk_un (by decide)).trans ((pk_un (by decide)).trans hf33)))))))))) (((pk_un (by decide)).trans ((pk_un (by decide)).trans ((pk_un (by decide)).trans ((pk_un (by decide)).trans ((pk_un (by decide)).trans ((pk_un (by decide)).trans ((pk_un (by decide)).trans ((pk_un (by decide)).trans ((pk_un (by decide)).trans hf34)))))))))) (((pk_un (by decide)).trans ((pk_un (by decide)).trans ((pk_un (by decide)).trans ((pk_un (by decide)).trans ((pk_un (by decide)).trans ((pk_un (by decide)).trans ((pk_un (by decide)).trans ((pk_un (by decide)).trans ((pk_un (by decide)).trans hf35)))))))))) (((pk_un (by decide)).trans ((pk_un (by decide)).trans ((pk_un (by decide)).trans ((pk_un (by decide)).trans ((pk_un (by decide)).trans ((pk_un (by decide)).trans ((pk_un (by decide)).trans ((pk_un (by decide)).trans ((pk_un (by decide)).trans hf36)))))))))) H.size) (kV_X3_measureOne hE (e698 hE) rfl rfl ⟨(Nat.le_of_ble_eq_true rfl), (Nat.le_of_ble_eq_true rfl)⟩) [1, 2] rfl (by decide) rfl hl.1 rfl (lv_room (Nat.le_of_ble_eq_true rfl)) dX3_measure_10 ⟨(Nat.le_of_ble_eq_true rfl), (Nat.le_of_ble_eq_true rfl)⟩) hP hD hS hA [1, 2] [0] rfl rfl (by decide) (by decide) (fun u13 H locs hP hD hS => ?_)
  have hP : va_P g.1 vwCl [(q4, .inl (g.2 0, 384, .inl f15)), (q5, .inl (g.2 0, 40, .inl (upd (upd (upd (upd (upd (upd (upd (upd (upd (upd f6 1 0) 4 1) 9 1) 11 x17) 12 1) 14 1) 19 1) 24 1) 29 1) 34 1))), (q1, .inr (5, [.ref q4, .ref q5]))] H := hP
  have hD : va_D A [(q4, .inl (g.2 0, 384, .inl f15)), (q5, .inl (g.2 0, 40, .inl (upd (upd (upd (upd (upd (upd (upd (upd (upd (upd f6 1 0) 4 1) 9 1) 11 x17) 12 1) 14 1) 19 1) 24 1) 29 1) 34 1))), (q1, .inr (5, [.ref q4, .ref q5]))] := hD
  refine lv_aload_n hx hb dX3_measure_13 rfl (lv_at hl 1 rfl) ?_
  refine lv_iload_n hx hb dX3_measure_14 rfl (lv_at hl 0 rfl) ?_
  refine lv_iconst (v := 1) hx hb dX3_measure_15 (by decide) ?_
  refine g_i (wr := [(q4, .inl (g.2 0, 384, .inl f15))]) (rV (rest := []) hx hb hml hown hE hP hD 2 rfl rfl (c181_X3_figure l g q1 q5 (.ref q4) (upd (upd (upd (upd (upd (upd (upd (upd (upd (upd f6 1 0) 4 1) 9 1) 11 x17) 12 1) 14 1) 19 1) 24 1) 29 1) 34 1) (((pk_un (by decide)).trans ((pk_un (by decide)).trans ((pk_un (by decide)).trans ((pk_un (by decide)).trans ((pk_un (by decide)).trans ((pk_un (by decide)).trans ((pk_un (by decide)).trans ((pk_un (by decide)).trans ((pk_un (by decide)).trans ((pk_un (by decide)).trans hf34))))))))))) H.size) (kV_X3_figure hE (e343 hE) rfl rfl ⟨(Nat.le_of_ble_eq_true rfl), (Nat.le_of_ble_eq_true rfl)⟩) [1, 2] rfl (by decide) rfl hl.1 rfl (lv_room (Nat.le_of_ble_eq_true rfl)) dX3_measure_16 ⟨(Nat.le_of_ble_eq_true rfl), (Nat.le_of_ble_eq_true rfl)⟩) hP hD hS hA [1, 2] [0] rfl rfl (by decide) (by decide) (fun u14 H locs hP hD hS => ?_)
  have hP : va_P g.1 vwCl [(q4, .inl (g.2 0, 384, .inl f15)), (q5, .inl (g.2 0, 40, .inl (upd (upd (upd (upd (upd (upd (upd (upd (upd (upd f6 1 0) 4 1) 9 1) 11 x17) 12 1) 14 1) 19 1) 24 1) 29 1) 34 1))), (q1, .inr (5, [.ref q4, .ref q5]))] H := hP
  have hD : va_D A [(q4, .inl (g.2 0, 384, .inl f15)), (q5, .inl (g.2 0, 40, .inl (upd (upd (upd (upd (upd (upd (upd (upd (upd (upd f6 1 0) 4 1) 9 1) 11 x17) 12 1) 14 1) 19 1) 24 1) 29 1) 34 1))), (q1, .inr (5, [.ref q4, .ref q5]))] := hD
  refine lv_sipush (v := 20000) hx hb dX3_measure_19 (by decide) ?_
  refine lv_icmp_le (tgt := 27) hx hb dX3_measure_22 (by decide) (fun _ => ?_) (fun h => absurd (by decide) h)
  refine lv_iinc (v := 7) (lv' := [(1, .int 7), (0, .ref q1)]) hx hb dX3_measure_27 hl (k := 0) rfl (by decide) (by decide) rfl (fun ls hl => ?_)
  refine lv_goto (tgt := 2) hx hb dX3_measure_30 (by decide) ?_
  refine lv_iload_n hx hb dX3_measure_2 rfl (lv_at hl 0 rfl) ?_
  refine lv_bipush (v := 8) hx hb dX3_measure_3 (by decide) ?_
  refine lv_icmp_ge (tgt := 33) hx hb dX3_measure_5 (by decide) (fun h => absurd h (by decide)) (fun _ => ?_)
  refine lv_aload_n hx hb dX3_measure_8 rfl (lv_at hl 1 rfl) ?_
  refine lv_iload_n hx hb dX3_measure_9 rfl (lv_at hl 0 rfl) ?_
  refine g_v (wr := [(q4, .inl (g.2 0, 384, .inl f15))]) (rV (rest := []) hx hb hml hown hE hP hD 2 rfl rfl (c186_X3_measureOne l g q1 q5 (.ref q4) (upd (upd (upd (upd (upd (upd (upd (upd (upd (upd f6 1 0) 4 1) 9 1) 11 x17) 12 1) 14 1) 19 1) 24 1) 29 1) 34 1) (((pk_un (by decide)).trans ((pk_un (by decide)).trans ((pk_un (by decide)).trans ((pk_un (by decide)).trans ((pk_un (by decide)).trans ((pk_un (by decide)).trans ((pk_un (by decide)).trans ((pk_un (by decide)).trans ((pk_un (by decide)).trans ((pk_un (by decide)).trans hf37))))))))))) (((pk_un (by decide)).trans ((pk_un (by decide)).trans ((pk_un (by decide)).trans ((pk_un (by decide)).trans ((pk_un (by decide)).trans ((pk_un (by decide)).trans ((pk_un (by decide)).trans ((pk_un (by decide)).trans ((pk_un (by decide)).trans ((pk_un (by decide)).trans hf38))))))))))) (((pk_un (by decide)).trans ((pk_un (by decide)).trans ((pk_un (by decide)).trans ((pk_un (by decide)).trans ((pk_un (by decide)).trans ((pk_un (by decide)).trans ((pk_un (by decide)).trans ((pk_un (by decide)).trans ((pk_un (by decide)).trans ((pk_un (by decide)).trans hf39))))))))))) (((pk_un (by decide)).trans ((pk_un (by decide)).trans ((pk_un (by decide)).trans ((pk_un (by decide)).trans ((pk_un (by decide)).trans ((pk_un (by decide)).trans ((pk_un (by decide)).trans ((pk_un (by decide)).trans ((pk_un (by decide)).trans ((pk_un (by decide)).trans hf40))))))))))) H.size) (kV_X3_measureOne hE (e698 hE) rfl rfl ⟨(Nat.le_of_ble_eq_true rfl), (Nat.le_of_ble_eq_true rfl)⟩) [1, 2] rfl (by decide) rfl hl.1 rfl (lv_room (Nat.le_of_ble_eq_true rfl)) dX3_measure_10 ⟨(Nat.le_of_ble_eq_true rfl), (Nat.le_of_ble_eq_true rfl)⟩) hP hD hS hA [1, 2] [0] rfl rfl (by decide) (by decide) (fun u15 H locs hP hD hS => ?_)
  have hP : va_P g.1 vwCl [(q4, .inl (g.2 0, 384, .inl f15)), (q5, .inl (g.2 0, 40, .inl (upd (upd (upd (upd (upd (upd (upd (upd (upd (upd (upd f6 1 0) 4 1) 9 1) 11 x17) 12 1) 14 1) 19 1) 24 1) 29 1) 34 1) 39 1))), (q1, .inr (5, [.ref q4, .ref q5]))] H := hP
  have hD : va_D A [(q4, .inl (g.2 0, 384, .inl f15)), (q5, .inl (g.2 0, 40, .inl (upd (upd (upd (upd (upd (upd (upd (upd (upd (upd (upd f6 1 0) 4 1) 9 1) 11 x17) 12 1) 14 1) 19 1) 24 1) 29 1) 34 1) 39 1))), (q1, .inr (5, [.ref q4, .ref q5]))] := hD
  refine lv_aload_n hx hb dX3_measure_13 rfl (lv_at hl 1 rfl) ?_
  refine lv_iload_n hx hb dX3_measure_14 rfl (lv_at hl 0 rfl) ?_
  refine lv_iconst (v := 1) hx hb dX3_measure_15 (by decide) ?_
  refine g_i (wr := [(q4, .inl (g.2 0, 384, .inl f15))]) (rV (rest := []) hx hb hml hown hE hP hD 2 rfl rfl (c187_X3_figure l g q1 q5 (.ref q4) (upd (upd (upd (upd (upd (upd (upd (upd (upd (upd (upd f6 1 0) 4 1) 9 1) 11 x17) 12 1) 14 1) 19 1) 24 1) 29 1) 34 1) 39 1) (((pk_un (by decide)).trans ((pk_un (by decide)).trans ((pk_un (by decide)).trans ((pk_un (by decide)).trans ((pk_un (by decide)).trans ((pk_un (by decide)).trans ((pk_un (by decide)).trans ((pk_un (by decide)).trans ((pk_un (by decide)).trans ((pk_un (by decide)).trans ((pk_un (by decide)).trans hf38)))))))))))) H.size) (kV_X3_figure hE (e343 hE) rfl rfl ⟨(Nat.le_of_ble_eq_true rfl), (Nat.le_of_ble_eq_true rfl)⟩) [1, 2] rfl (by decide) rfl hl.1 rfl (lv_room (Nat.le_of_ble_eq_true rfl)) dX3_measure_16 ⟨(Nat.le_of_ble_eq_true rfl), (Nat.le_of_ble_eq_true rfl)⟩) hP hD hS hA [1, 2] [0] rfl rfl (by decide) (by decide) (fun u16 H locs hP hD hS => ?_)
  have hP : va_P g.1 vwCl [(q4, .inl (g.2 0, 384, .inl f15)), (q5, .inl (g.2 0, 40, .inl (upd (upd (upd (upd (upd (upd (upd (upd (upd (upd (upd f6 1 0) 4 1) 9 1) 11 x17) 12 1) 14 1) 19 1) 24 1) 29 1) 34 1) 39 1))), (q1, .inr (5, [.ref q4, .ref q5]))] H := hP
  have hD : va_D A [(q4, .inl (g.2 0, 384, .inl f15)), (q5, .inl (g.2 0, 40, .inl (upd (upd (upd (upd (upd (upd (upd (upd (upd (upd (upd f6 1 0) 4 1) 9 1) 11 x17) 12 1) 14 1) 19 1) 24 1) 29 1) 34 1) 39 1))), (q1, .inr (5, [.ref q4, .ref q5]))] := hD
  refine lv_sipush (v := 20000) hx hb dX3_measure_19 (by decide) ?_
  refine lv_icmp_le (tgt := 27) hx hb dX3_measure_22 (by decide) (fun _ => ?_) (fun h => absurd (by decide) h)
  refine lv_iinc (v := 8) (lv' := [(1, .int 8), (0, .ref q1)]) hx hb dX3_measure_27 hl (k := 0) rfl (by decide) (by decide) rfl (fun ls hl => ?_)
  refine lv_goto (tgt := 2) hx hb dX3_measure_30 (by decide) ?_
  refine lv_iload_n hx hb dX3_measure_2 rfl (lv_at hl 0 rfl) ?_
  refine lv_bipush (v := 8) hx hb dX3_measure_3 (by decide) ?_
  refine lv_icmp_ge (tgt := 33) hx hb dX3_measure_5 (by decide) (fun _ => ?_) (fun h => absurd (by decide) h)
  refine lv_iconst (v := 1) hx hb dX3_measure_33 (by decide) ?_
  exact x_zret hx hb hr rfl rfl hlocks hP hD hS hAe hsz (Nat.le_of_ble_eq_true rfl) (Nat.le_of_ble_eq_true rfl) (fun _ => 0) [0, 1, 2] (by decide) rfl dX3_measure_34

set_option maxHeartbeats 4000000 in
set_option maxRecDepth 100000 in
theorem c273_X9_acceptIfFitting (l : Launch) (g : gG) (q1 q2 q10 q13 q14 q61 : Nat) (x26 : Int32) (w4 w5 w6 w8 w9 w51 w52 w53 w54 w55 w56 w57 w58 w59 w60 w62 : Value) (f15 : Nat → Int32) (f24 : Nat → Int32) (hf16 : f15 0 = 0) (hf17 : f15 2 = 0) (hf18 : f15 3 = 0) (hf19 : f15 5 = 0) (hf20 : f15 6 = 0) (hf21 : f15 7 = 0) (hf22 : f15 8 = 0) (hf23 : f15 10 = 1) (hf25 : f24 98 = x26) (hf27 : f24 96 = 0) (hf28 : f15 13 = 0) (hf30 : f15 15 = 0) (hf31 : f15 16 = 0) (hf32 : f15 17 = 0) (hf33 : f15 18 = 0) (hf34 : f15 20 = 0) (hf35 : f15 21 = 0) (hf36 : f15 22 = 0) (hf37 : f15 23 = 0) (hf38 : f15 25 = 0) (hf39 : f15 26 = 0) (hf40 : f15 27 = 0) (hf41 : f15 28 = 0) (hf42 : f15 30 = 0) (hf43 : f15 31 = 0) (hf44 : f15 32 = 0) (hf45 : f15 33 = 0) (hf46 : f15 35 = 0) (hf47 : f15 36 = 0) (hf48 : f15 37 = 0) (hf49 : f15 38 = 0) (h29 : x26 ≤ 20000) (sz : Nat) : Met l yX9_acceptIfFitting [Cond.code yX9_acceptIfFitting cX9_acceptIfFitting 2 none] ({ frames := 4, cells := 0, slots := 0, locals := 96 } : Room) (va_Pc [.ref q1, .ref q2] (PX g sz [(q61, .inr (10, [w62, .int 0, .int 0])), (q1, .inr (11, [.ref q61, w51, w52, w53, w54, w55, w56, w57, w58, w59, w60])), (q13, .inl (g.2 0, 384, .inl f24)), (q14, .inl (g.2 0, 40, .inl f15)), (q10, .inr (5, [.ref q13, .ref q14])), (q2, .inr (8, [.ref q10, w4, w5, w6, .int 0, w8, w9]))])) (QV g [(q61, .inr (10, [w62, .int 0, .int 0])), (q1, .inr (11, [.ref q61, w51, w52, w53, w54, w55, w56, w57, w58, w59, w60])), (q13, .inl (g.2 0, 384, .inl f24)), (q14, .inl (g.2 0, 40, .inl f15)), (q10, .inr (5, [.ref q13, .ref q14])), (q2, .inr (8, [.ref q10, w4, w5, w6, .int 0, w8, w9]))] sz (fun _ => [(q13, .inl (g.2 0, 384, .inl f24)), (q14, .inl (g.2 0, 40, .inl (upd (upd (upd (upd (upd (upd (upd (upd (upd (upd (upd f15 1 0) 4 1) 9 1) 11 x26) 12 1) 14 1) 19 1) 24 1) 29 1) 34 1) 39 1))), (q10, .inr (5, [.ref q13, .ref q14])), (q2, .inr (8, [.ref q10, w4, w5, w6, .int 0, w8, w9])), (q61, .inr (10, [w62, .int 1, .int 1])), (q1, .inr (11, [.ref q61, w51, w52, w53, w54, w55, w56, w57, .int 0, .int 0, w60]))])) 0 0 (va_A [(q61, .inr (10, [w62, .int 0, .int 0])), (q1, .inr (11, [.ref q61, w51, w52, w53, w54, w55, w56, w57, w58, w59, w60])), (q13, .inl (g.2 0, 384, .inl f24)), (q14, .inl (g.2 0, 40, .inl f15)), (q10, .inr (5, [.ref q13, .ref q14])), (q2, .inr (8, [.ref q10, w4, w5, w6, .int 0, w8, w9]))] sz) := by
  refine ofN (by decide) (Nat.le_of_ble_eq_true rfl) rfl ?_
  intro p e s m args below meth c A ls hAe hsz hx hb hml hr hlocks hin hown hE hP hD hA hS hl
  have hown : s.vm.findClass RX9 = some m.cls := hown
  refine lv_aload_n hx hb dX9_acceptIfFitting_0 rfl (lv_at hl 1 rfl) ?_
  refine gf_RX9_108 hx hb hown hE hP 5 rfl rfl dX9_acceptIfFitting_1 ?_
  refine g_i (wr := [(q61, .inr (10, [w62, .int 0, .int 0])), (q1, .inr (11, [.ref q61, w51, w52, w53, w54, w55, w56, w57, w58, w59, w60])), (q2, .inr (8, [.ref q10, w4, w5, w6, .int 0, w8, w9]))]) (rV (rest := []) hx hb hml hown hE hP hD 4 rfl rfl (c272_X3_measure l g q10 q13 q14 x26 f15 f24 (hf16) (hf17) (hf18) (hf19) (hf20) (hf21) (hf22) (hf23) (hf25) (hf27) (hf28) (hf30) (hf31) (hf32) (hf33) (hf34) (hf35) (hf36) (hf37) (hf38) (hf39) (hf40) (hf41) (hf42) (hf43) (hf44) (hf45) (hf46) (hf47) (hf48) (hf49) h29 s.heap.size) (kV_X3_measure hE (e694 hE) rfl rfl ⟨(Nat.le_of_ble_eq_true rfl), (Nat.le_of_ble_eq_true rfl)⟩) [2, 3, 4] rfl (by decide) rfl hl.1 rfl (lv_room (Nat.le_of_ble_eq_true rfl)) dX9_acceptIfFitting_4 ⟨(Nat.le_of_ble_eq_true rfl), (Nat.le_of_ble_eq_true rfl)⟩) hP hD hS hA [2, 3, 4] [0, 1, 5] rfl rfl (by decide) (by decide) (fun u1 H locs hP hD hS => ?_)
  have hP : va_P g.1 vwCl [(q61, .inr (10, [w62, .int 0, .int 0])), (q1, .inr (11, [.ref q61, w51, w52, w53, w54, w55, w56, w57, w58, w59, w60])), (q2, .inr (8, [.ref q10, w4, w5, w6, .int 0, w8, w9])), (q13, .inl (g.2 0, 384, .inl f24)), (q14, .inl (g.2 0, 40, .inl (upd (upd (upd (upd (upd (upd (upd (upd (upd (upd (upd f15 1 0) 4 1) 9 1) 11 x26) 12 1) 14 1) 19 1) 24 1) 29 1) 34 1) 39 1))), (q10, .inr (5, [.ref q13, .ref q14]))] H := hP
  have hD : va_D A [(q61, .inr (10, [w62, .int 0, .int 0])), (q1, .inr (11, [.ref q61, w51, w52, w53, w54, w55, w56, w57, w58, w59, w60])), (q2, .inr (8, [.ref q10, w4, w5, w6, .int 0, w8, w9])), (q13, .inl (g.2 0, 384, .inl f24)), (q14, .inl (g.2 0, 40, .inl (upd (upd (upd (upd (upd (upd (upd (upd (upd (upd (upd f15 1 0) 4 1) 9 1) 11 x26) 12 1) 14 1) 19 1) 24 1) 29 1) 34 1) 39 1))), (q10, .inr (5, [.ref q13, .ref q14]))] := hD
  refine lv_if_eq (tgt := 17) hx hb dX9_acceptIfFitting_7 (by decide) (fun h => absurd h (by decide)) (fun _ => ?_)
  refine lv_aload_n hx hb dX9_acceptIfFitting_10 rfl (lv_at hl 1 rfl) ?_
  refine g_i (wr := [(q61, .inr (10, [w62, .int 0, .int 0])), (q1, .inr (11, [.ref q61, w51, w52, w53, w54, w55, w56, w57, w58, w59, w60])), (q13, .inl (g.2 0, 384, .inl f24)), (q14, .inl (g.2 0, 40, .inl (upd (upd (upd (upd (upd (upd (upd (upd (upd (upd (upd f15 1 0) 4 1) 9 1) 11 x26) 12 1) 14 1) 19 1) 24 1) 29 1) 34 1) 39 1))), (q10, .inr (5, [.ref q13, .ref q14]))]) (rV (rest := []) hx hb hml hown hE hP hD 2 rfl rfl (c189_X6_hasFittingClips l g q2 (.ref q10) w4 w5 w6 w8 w9 H.size) (kV_X6_hasFittingClips hE (e703 hE) rfl rfl ⟨(Nat.le_of_ble_eq_true rfl), (Nat.le_of_ble_eq_true rfl)⟩) [2] rfl (by decide) rfl hl.1 rfl (lv_room (Nat.le_of_ble_eq_true rfl)) dX9_acceptIfFitting_11 ⟨(Nat.le_of_ble_eq_true rfl), (Nat.le_of_ble_eq_true rfl)⟩) hP hD hS hA [2] [0, 1, 3, 4, 5] rfl rfl (by decide) (by decide) (fun u2 H locs hP hD hS => ?_)
  have hP : va_P g.1 vwCl [(q61, .inr (10, [w62, .int 0, .int 0])), (q1, .inr (11, [.ref q61, w51, w52, w53, w54, w55, w56, w57, w58, w59, w60])), (q13, .inl (g.2 0, 384, .inl f24)), (q14, .inl (g.2 0, 40, .inl (upd (upd (upd (upd (upd (upd (upd (upd (upd (upd (upd f15 1 0) 4 1) 9 1) 11 x26) 12 1) 14 1) 19 1) 24 1) 29 1) 34 1) 39 1))), (q10, .inr (5, [.ref q13, .ref q14])), (q2, .inr (8, [.ref q10, w4, w5, w6, .int 0, w8, w9]))] H := hP
  have hD : va_D A [(q61, .inr (10, [w62, .int 0, .int 0])), (q1, .inr (11, [.ref q61, w51, w52, w53, w54, w55, w56, w57, w58, w59, w60])), (q13, .inl (g.2 0, 384, .inl f24)), (q14, .inl (g.2 0, 40, .inl (upd (upd (upd (upd (upd (upd (upd (upd (upd (upd (upd f15 1 0) 4 1) 9 1) 11 x26) 12 1) 14 1) 19 1) 24 1) 29 1) 34 1) 39 1))), (q10, .inr (5, [.ref q13, .ref q14])), (q2, .inr (8, [.ref q10, w4, w5, w6, .int 0, w8, w9]))] := hD
  refine lv_if_ne (tgt := 28) hx hb dX9_acceptIfFitting_14 (by decide) (fun _ => ?_) (fun h => absurd h (by decide))
  refine lv_aload_n hx hb dX9_acceptIfFitting_28 rfl (lv_at hl 0 rfl) ?_
  refine g_v (wr := [(q13, .inl (g.2 0, 384, .inl f24)), (q14, .inl (g.2 0, 40, .inl (upd (upd (upd (upd (upd (upd (upd (upd (upd (upd (upd f15 1 0) 4 1) 9 1) 11 x26) 12 1) 14 1) 19 1) 24 1) 29 1) 34 1) 39 1))), (q10, .inr (5, [.ref q13, .ref q14])), (q2, .inr (8, [.ref q10, w4, w5, w6, .int 0, w8, w9]))]) (rV (rest := []) hx hb hml hown hE hP hD 1 rfl rfl (c191_X9_accept l g q1 q61 w51 w52 w53 w54 w55 w56 w57 w58 w59 w60 w62 H.size) (kV_X9_accept hE (e718 hE) rfl rfl ⟨(Nat.le_of_ble_eq_true rfl), (Nat.le_of_ble_eq_true rfl)⟩) [0, 1] rfl (by decide) rfl hl.1 rfl (lv_room (Nat.le_of_ble_eq_true rfl)) dX9_acceptIfFitting_29 ⟨(Nat.le_of_ble_eq_true rfl), (Nat.le_of_ble_eq_true rfl)⟩) hP hD hS hA [0, 1] [2, 3, 4, 5] rfl rfl (by decide) (by decide) (fun u3 H locs hP hD hS => ?_)
  have hP : va_P g.1 vwCl [(q13, .inl (g.2 0, 384, .inl f24)), (q14, .inl (g.2 0, 40, .inl (upd (upd (upd (upd (upd (upd (upd (upd (upd (upd (upd f15 1 0) 4 1) 9 1) 11 x26) 12 1) 14 1) 19 1) 24 1) 29 1) 34 1) 39 1))), (q10, .inr (5, [.ref q13, .ref q14])), (q2, .inr (8, [.ref q10, w4, w5, w6, .int 0, w8, w9])), (q61, .inr (10, [w62, .int 1, .int 1])), (q1, .inr (11, [.ref q61, w51, w52, w53, w54, w55, w56, w57, .int 0, .int 0, w60]))] H := hP
  have hD : va_D A [(q13, .inl (g.2 0, 384, .inl f24)), (q14, .inl (g.2 0, 40, .inl (upd (upd (upd (upd (upd (upd (upd (upd (upd (upd (upd f15 1 0) 4 1) 9 1) 11 x26) 12 1) 14 1) 19 1) 24 1) 29 1) 34 1) 39 1))), (q10, .inr (5, [.ref q13, .ref q14])), (q2, .inr (8, [.ref q10, w4, w5, w6, .int 0, w8, w9])), (q61, .inr (10, [w62, .int 1, .int 1])), (q1, .inr (11, [.ref q61, w51, w52, w53, w54, w55, w56, w57, .int 0, .int 0, w60]))] := hD
  exact x_vret hx hb hr hlocks hP hD hS hAe hsz (Nat.le_of_ble_eq_true rfl) (Nat.le_of_ble_eq_true rfl) (fun _ => 0) [0, 1, 2, 3, 4, 5] (by decide) rfl dX9_acceptIfFitting_32

set_option maxHeartbeats 4000000 in
set_option maxRecDepth 100000 in
theorem c274_X9_addOneItem (l : Launch) (g : gG) (q1 q16 q20 q23 q25 q33 q34 q35 q36 q44 q45 q46 q47 q50 q51 q54 q55 q62 q63 q68 q69 : Nat) (x2 x3 x4 : Int32) (w6 w7 w8 w9 w10 w11 w12 w13 w14 w15 w30 w31 w32 w66 w67 : Value) (f21 : Nat → Option Nat) (f56 : Nat → Int32) (f57 : Nat → Int32) (f70 : Nat → Int32) (f71 : Nat → Int32) (hf22 : f21 1 = some q23) (hf24 : f21 0 = some q25) (hf72 : f57 10 = 0) (hf73 : f56 96 = 0) (hf74 : f57 0 = 0) (hf75 : f57 2 = 0) (hf76 : f57 3 = 0) (hf77 : f57 5 = 0) (hf78 : f57 6 = 0) (hf79 : f57 7 = 0) (hf80 : f57 8 = 0) (hf81 : f57 13 = 0) (hf83 : f57 15 = 0) (hf84 : f57 16 = 0) (hf85 : f57 17 = 0) (hf86 : f57 18 = 0) (hf87 : f57 20 = 0) (hf88 : f57 21 = 0) (hf89 : f57 22 = 0) (hf90 : f57 23 = 0) (hf91 : f57 25 = 0) (hf92 : f57 26 = 0) (hf93 : f57 27 = 0) (hf94 : f57 28 = 0) (hf95 : f57 30 = 0) (hf96 : f57 31 = 0) (hf97 : f57 32 = 0) (hf98 : f57 33 = 0) (hf99 : f57 35 = 0) (hf100 : f57 36 = 0) (hf101 : f57 37 = 0) (hf102 : f57 38 = 0) (h82 : x3 ≤ 20000) (sz : Nat) : Met l yX9_addOneItem [Cond.code yX9_addOneItem cX9_addOneItem 7 (some .int)] ({ frames := 5, cells := 0, slots := 0, locals := 148 } : Room) (va_Pc [.ref q1, .int 2, .int 0, .int x2, .int x3, .int x4] (PX g sz [(q36, .inl (g.2 0, 20, .inl f71)), (q47, .inl (g.2 0, 20, .inl f71)), (q35, .inl (g.2 0, 60, .inl f56)), (q46, .inl (g.2 0, 60, .inl f56)), (q69, .inl (g.2 0, 10, .inl f70)), (q63, .inl (g.2 0, 10, .inl f70)), (q68, .inl (g.2 0, 10, .inl f56)), (q62, .inl (g.2 0, 10, .inl f56)), (q34, .inr (9, [.ref q68, .ref q69, w66, w67])), (q45, .inr (9, [.ref q62, .ref q63, .int 1, .int 0])), (q55, .inl (g.2 0, 40, .inl f57)), (q51, .inl (g.2 0, 40, .inl f57)), (q54, .inl (g.2 0, 384, .inl f56)), (q50, .inl (g.2 0, 384, .inl f56)), (q33, .inr (5, [.ref q54, .ref q55])), (q44, .inr (5, [.ref q50, .ref q51])), (q25, .inr (8, [.ref q44, .ref q45, .ref q46, .ref q47, .int 0, .int 4, .int 0])), (q23, .inr (8, [.ref q33, .ref q34, .ref q35, .ref q36, w30, w31, w32])), (q20, .inl (g.2 3, 10, .inr (.inr (.inr (.inr f21))))), (q16, .inr (10, [.ref q20, .int 0, .int 0])), (q1, .inr (11, [.ref q16, w6, w7, w8, w9, w10, w11, w12, w13, w14, w15]))])) (QI g [(q36, .inl (g.2 0, 20, .inl f71)), (q47, .inl (g.2 0, 20, .inl f71)), (q35, .inl (g.2 0, 60, .inl f56)), (q46, .inl (g.2 0, 60, .inl f56)), (q69, .inl (g.2 0, 10, .inl f70)), (q63, .inl (g.2 0, 10, .inl f70)), (q68, .inl (g.2 0, 10, .inl f56)), (q62, .inl (g.2 0, 10, .inl f56)), (q34, .inr (9, [.ref q68, .ref q69, w66, w67])), (q45, .inr (9, [.ref q62, .ref q63, .int 1, .int 0])), (q55, .inl (g.2 0, 40, .inl f57)), (q51, .inl (g.2 0, 40, .inl f57)), (q54, .inl (g.2 0, 384, .inl f56)), (q50, .inl (g.2 0, 384, .inl f56)), (q33, .inr (5, [.ref q54, .ref q55])), (q44, .inr (5, [.ref q50, .ref q51])), (q25, .inr (8, [.ref q44, .ref q45, .ref q46, .ref q47, .int 0, .int 4, .int 0])), (q23, .inr (8, [.ref q33, .ref q34, .ref q35, .ref q36, w30, w31, w32])), (q20, .inl (g.2 3, 10, .inr (.inr (.inr (.inr f21))))), (q16, .inr (10, [.ref q20, .int 0, .int 0])), (q1, .inr (11, [.ref q16, w6, w7, w8, w9, w10, w11, w12, w13, w14, w15]))] sz 1 (fun _ => [(q20, .inl (g.2 3, 10, .inr (.inr (.inr (.inr f21))))), (q25, .inr (8, [.ref q44, .ref q45, .ref q46, .ref q47, .int 0, .int 4, .int 0])), (q44, .inr (5, [.ref q50, .ref q51])), (q50, .inl (g.2 0, 384, .inl f56)), (q51, .inl (g.2 0, 40, .inl f57)), (q34, .inr (9, [.ref q68, .ref q69, .int 1, .int 0])), (q45, .inr (9, [.ref q62, .ref q63, .int 1, .int 0])), (q68, .inl (g.2 0, 10, .inl f56)), (q62, .inl (g.2 0, 10, .inl f56)), (q69, .inl (g.2 0, 10, .inl f70)), (q63, .inl (g.2 0, 10, .inl f70)), (q35, .inl (g.2 0, 60, .inl f56)), (q46, .inl (g.2 0, 60, .inl f56)), (q36, .inl (g.2 0, 20, .inl f71)), (q47, .inl (g.2 0, 20, .inl f71)), (q54, .inl (g.2 0, 384, .inl (upd (upd (upd f56 97 x2) 98 x3) 99 x4))), (q23, .inr (8, [.ref q33, .ref q34, .ref q35, .ref q36, .int 0, .int 4, .int 0])), (q16, .inr (10, [.ref q20, .int 1, .int 1])), (q1, .inr (11, [.ref q16, w6, w7, w8, w9, w10, w11, w12, .int 0, .int 0, w15])), (q55, .inl (g.2 0, 40, .inl (upd (upd (upd (upd (upd (upd (upd (upd (upd (upd (upd (upd f57 10 1) 1 0) 4 1) 9 1) 11 x3) 12 1) 14 1) 19 1) 24 1) 29 1) 34 1) 39 1))), (q33, .inr (5, [.ref q54, .ref q55]))])) 0 0 (va_A [(q36, .inl (g.2 0, 20, .inl f71)), (q47, .inl (g.2 0, 20, .inl f71)), (q35, .inl (g.2 0, 60, .inl f56)), (q46, .inl (g.2 0, 60, .inl f56)), (q69, .inl (g.2 0, 10, .inl f70)), (q63, .inl (g.2 0, 10, .inl f70)), (q68, .inl (g.2 0, 10, .inl f56)), (q62, .inl (g.2 0, 10, .inl f56)), (q34, .inr (9, [.ref q68, .ref q69, w66, w67])), (q45, .inr (9, [.ref q62, .ref q63, .int 1, .int 0])), (q55, .inl (g.2 0, 40, .inl f57)), (q51, .inl (g.2 0, 40, .inl f57)), (q54, .inl (g.2 0, 384, .inl f56)), (q50, .inl (g.2 0, 384, .inl f56)), (q33, .inr (5, [.ref q54, .ref q55])), (q44, .inr (5, [.ref q50, .ref q51])), (q25, .inr (8, [.ref q44, .ref q45, .ref q46, .ref q47, .int 0, .int 4, .int 0])), (q23, .inr (8, [.ref q33, .ref q34, .ref q35, .ref q36, w30, w31, w32])), (q20, .inl (g.2 3, 10, .inr (.inr (.inr (.inr f21))))), (q16, .inr (10, [.ref q20, .int 0, .int 0])), (q1, .inr (11, [.ref q16, w6, w7, w8, w9, w10, w11, w12, w13, w14, w15]))] sz) := by
  refine ofN (by decide) (Nat.le_of_ble_eq_true rfl) rfl ?_
  intro p e s m args below meth c A ls hAe hsz hx hb hml hr hlocks hin hown hE hP hD hA hS hl
  have hown : s.vm.findClass RX9 = some m.cls := hown
  refine lv_aload_n hx hb dX9_addOneItem_0 rfl (lv_at hl 0 rfl) ?_
  refine gf_RX9_12 hx hb hown hE hP 20 rfl rfl dX9_addOneItem_1 ?_
  refine g_r (wr := [(q1, .inr (11, [.ref q16, w6, w7, w8, w9, w10, w11, w12, w13, w14, w15]))]) (rV (rest := []) hx hb hml hown hE hP hD 19 rfl rfl (c127_X8_draft l g q16 q20 q23 q25 q33 q44 q50 q54 q51 q55 q34 q45 q62 q68 q63 q69 q46 q35 q47 q36 (.int 0) w30 w31 w32 w66 w67 f21 f56 f57 f70 f71 (hf22) (hf24) s.heap.size) (kV_X8_draft hE (e659 hE) rfl rfl ⟨(Nat.le_of_ble_eq_true rfl), (Nat.le_of_ble_eq_true rfl)⟩) [0, 1, 2, 3, 4, 5, 6, 7, 8, 9, 10, 11, 12, 13, 14, 15, 16, 17, 18, 19] rfl (by decide) rfl hl.1 rfl (lv_room (Nat.le_of_ble_eq_true rfl)) dX9_addOneItem_4 ⟨(Nat.le_of_ble_eq_true rfl), (Nat.le_of_ble_eq_true rfl)⟩) hP hD hS hA [0, 1, 2, 3, 4, 5, 6, 7, 8, 9, 10, 11, 12, 13, 14, 15, 16, 17, 18, 19] [20] rfl rfl (by decide) (by decide) (fun u1 H locs hP hD hS => ?_)
  have hP : va_P g.1 vwCl [(q1, .inr (11, [.ref q16, w6, w7, w8, w9, w10, w11, w12, w13, w14, w15])), (q20, .inl (g.2 3, 10, .inr (.inr (.inr (.inr f21))))), (q16, .inr (10, [.ref q20, .int 0, .int 0])), (q25, .inr (8, [.ref q44, .ref q45, .ref q46, .ref q47, .int 0, .int 4, .int 0])), (q23, .inr (8, [.ref q33, .ref q34, .ref q35, .ref q36, .int 0, .int 4, .int 0])), (q33, .inr (5, [.ref q54, .ref q55])), (q44, .inr (5, [.ref q50, .ref q51])), (q54, .inl (g.2 0, 384, .inl f56)), (q50, .inl (g.2 0, 384, .inl f56)), (q55, .inl (g.2 0, 40, .inl f57)), (q51, .inl (g.2 0, 40, .inl f57)), (q34, .inr (9, [.ref q68, .ref q69, .int 1, .int 0])), (q45, .inr (9, [.ref q62, .ref q63, .int 1, .int 0])), (q68, .inl (g.2 0, 10, .inl f56)), (q62, .inl (g.2 0, 10, .inl f56)), (q69, .inl (g.2 0, 10, .inl f70)), (q63, .inl (g.2 0, 10, .inl f70)), (q35, .inl (g.2 0, 60, .inl f56)), (q46, .inl (g.2 0, 60, .inl f56)), (q36, .inl (g.2 0, 20, .inl f71)), (q47, .inl (g.2 0, 20, .inl f71))] H := hP
  have hD : va_D A [(q1, .inr (11, [.ref q16, w6, w7, w8, w9, w10, w11, w12, w13, w14, w15])), (q20, .inl (g.2 3, 10, .inr (.inr (.inr (.inr f21))))), (q16, .inr (10, [.ref q20, .int 0, .int 0])), (q25, .inr (8, [.ref q44, .ref q45, .ref q46, .ref q47, .int 0, .int 4, .int 0])), (q23, .inr (8, [.ref q33, .ref q34, .ref q35, .ref q36, .int 0, .int 4, .int 0])), (q33, .inr (5, [.ref q54, .ref q55])), (q44, .inr (5, [.ref q50, .ref q51])), (q54, .inl (g.2 0, 384, .inl f56)), (q50, .inl (g.2 0, 384, .inl f56)), (q55, .inl (g.2 0, 40, .inl f57)), (q51, .inl (g.2 0, 40, .inl f57)), (q34, .inr (9, [.ref q68, .ref q69, .int 1, .int 0])), (q45, .inr (9, [.ref q62, .ref q63, .int 1, .int 0])), (q68, .inl (g.2 0, 10, .inl f56)), (q62, .inl (g.2 0, 10, .inl f56)), (q69, .inl (g.2 0, 10, .inl f70)), (q63, .inl (g.2 0, 10, .inl f70)), (q35, .inl (g.2 0, 60, .inl f56)), (q46, .inl (g.2 0, 60, .inl f56)), (q36, .inl (g.2 0, 20, .inl f71)), (q47, .inl (g.2 0, 20, .inl f71))] := hD
  refine lv_astore (lv' := [(6, .ref q23), (0, .ref q1), (1, .int 2), (2, .int 0), (3, .int x2), (4, .int x3), (5, .int x4)]) hx hb dX9_addOneItem_7 hl (by decide) rfl (fun ls hl => ?_)
  refine lv_aload hx hb dX9_addOneItem_9 (lv_at hl 0 rfl) ?_
  refine lv_iload_n hx hb dX9_addOneItem_11 rfl (lv_at hl 2 rfl) ?_
  refine lv_iload_n hx hb dX9_addOneItem_12 rfl (lv_at hl 3 rfl) ?_
  refine lv_iload_n hx hb dX9_addOneItem_13 rfl (lv_at hl 4 rfl) ?_
  refine lv_iload hx hb dX9_addOneItem_14 (lv_at hl 5 rfl) ?_
  refine lv_iload hx hb dX9_addOneItem_16 (lv_at hl 6 rfl) ?_
  refine g_v (wr := [(q1, .inr (11, [.ref q16, w6, w7, w8, w9, w10, w11, w12, w13, w14, w15])), (q20, .inl (g.2 3, 10, .inr (.inr (.inr (.inr f21))))), (q16, .inr (10, [.ref q20, .int 0, .int 0])), (q25, .inr (8, [.ref q44, .ref q45, .ref q46, .ref q47, .int 0, .int 4, .int 0])), (q44, .inr (5, [.ref q50, .ref q51])), (q50, .inl (g.2 0, 384, .inl f56)), (q51, .inl (g.2 0, 40, .inl f57)), (q34, .inr (9, [.ref q68, .ref q69, .int 1, .int 0])), (q45, .inr (9, [.ref q62, .ref q63, .int 1, .int 0])), (q68, .inl (g.2 0, 10, .inl f56)), (q62, .inl (g.2 0, 10, .inl f56)), (q69, .inl (g.2 0, 10, .inl f70)), (q63, .inl (g.2 0, 10, .inl f70)), (q35, .inl (g.2 0, 60, .inl f56)), (q46, .inl (g.2 0, 60, .inl f56)), (q36, .inl (g.2 0, 20, .inl f71)), (q47, .inl (g.2 0, 20, .inl f71))]) (rS (rest := []) hx hb hml hown hE hP hD (c262_X9_putItem l g q23 q33 q55 q54 x2 x3 x4 (.ref q34) (.ref q35) (.ref q36) (.int 0) (.int 4) (.int 0) f57 f56 (hf72) (hf73) H.size) (kS_X9_putItem hE (e665 hE) rfl rfl ⟨(Nat.le_of_ble_eq_true rfl), (Nat.le_of_ble_eq_true rfl)⟩) [7, 9, 5, 4] rfl (by decide) rfl hl.1 rfl (lv_room (Nat.le_of_ble_eq_true rfl)) dX9_addOneItem_18 ⟨(Nat.le_of_ble_eq_true rfl), (Nat.le_of_ble_eq_true rfl)⟩) hP hD hS hA [7, 9, 5, 4] [0, 1, 2, 3, 6, 8, 10, 11, 12, 13, 14, 15, 16, 17, 18, 19, 20] rfl rfl (by decide) (by decide) (fun u2 H locs hP hD hS => ?_)
  have hP : va_P g.1 vwCl [(q1, .inr (11, [.ref q16, w6, w7, w8, w9, w10, w11, w12, w13, w14, w15])), (q20, .inl (g.2 3, 10, .inr (.inr (.inr (.inr f21))))), (q16, .inr (10, [.ref q20, .int 0, .int 0])), (q25, .inr (8, [.ref q44, .ref q45, .ref q46, .ref q47, .int 0, .int 4, .int 0])), (q44, .inr (5, [.ref q50, .ref q51])), (q50, .inl (g.2 0, 384, .inl f56)), (q51, .inl (g.2 0, 40, .inl f57)), (q34, .inr (9, [.ref q68, .ref q69, .int 1, .int 0])), (q45, .inr (9, [.ref q62, .ref q63, .int 1, .int 0])), (q68, .inl (g.2 0, 10, .inl f56)), (q62, .inl (g.2 0, 10, .inl f56)), (q69, .inl (g.2 0, 10, .inl f70)), (q63, .inl (g.2 0, 10, .inl f70)), (q35, .inl (g.2 0, 60, .inl f56)), (q46, .inl (g.2 0, 60, .inl f56)), (q36, .inl (g.2 0, 20, .inl f71)), (q47, .inl (g.2 0, 20, .inl f71)), (q23, .inr (8, [.ref q33, .ref q34, .ref q35, .ref q36, .int 0, .int 4, .int 0])), (q54, .inl (g.2 0, 384, .inl (upd (upd (upd f56 97 x2) 98 x3) 99 x4))), (q55, .inl (g.2 0, 40, .inl (upd f57 10 1))), (q33, .inr (5, [.ref q54, .ref q55]))] H := hP
  have hD : va_D A [(q1, .inr (11, [.ref q16, w6, w7, w8, w9, w10, w11, w12, w13, w14, w15])), (q20, .inl (g.2 3, 10, .inr (.inr (.inr (.inr f21))))), (q16, .inr (10, [.ref q20, .int 0, .int 0])), (q25, .inr (8, [.ref q44, .ref q45, .ref q46, .ref q47, .int 0, .int 4, .int 0])), (q44, .inr (5, [.ref q50, .ref q51])), (q50, .inl (g.2 0, 384, .inl f56)), (q51, .inl (g.2 0, 40, .inl f57)), (q34, .inr (9, [.ref q68, .ref q69, .int 1, .int 0])), (q45, .inr (9, [.ref q62, .ref q63, .int 1, .int 0])), (q68, .inl (g.2 0, 10, .inl f56)), (q62, .inl (g.2 0, 10, .inl f56)), (q69, .inl (g.2 0, 10, .inl f70)), (q63, .inl (g.2 0, 10, .inl f70)), (q35, .inl (g.2 0, 60, .inl f56)), (q46, .inl (g.2 0, 60, .inl f56)), (q36, .inl (g.2 0, 20, .inl f71)), (q47, .inl (g.2 0, 20, .inl f71)), (q23, .inr (8, [.ref q33, .ref q34, .ref q35, .ref q36, .int 0, .int 4, .int 0])), (q54, .inl (g.2 0, 384, .inl (upd (upd (upd f56 97 x2) 98 x3) 99 x4))), (q55, .inl (g.2 0, 40, .inl (upd f57 10 1))), (q33, .inr (5, [.ref q54, .ref q55]))] := hD
  refine lv_aload_n hx hb dX9_addOneItem_21 rfl (lv_at hl 1 rfl) ?_
  refine lv_aload hx hb dX9_addOneItem_22 (lv_at hl 0 rfl) ?_
  refine g_v (wr := [(q20, .inl (g.2 3, 10, .inr (.inr (.inr (.inr f21))))), (q25, .inr (8, [.ref q44, .ref q45, .ref q46, .ref q47, .int 0, .int 4, .int 0])), (q44, .inr (5, [.ref q50, .ref q51])), (q50, .inl (g.2 0, 384, .inl f56)), (q51, .inl (g.2 0, 40, .inl f57)), (q34, .inr (9, [.ref q68, .ref q69, .int 1, .int 0])), (q45, .inr (9, [.ref q62, .ref q63, .int 1, .int 0])), (q68, .inl (g.2 0, 10, .inl f56)), (q62, .inl (g.2 0, 10, .inl f56)), (q69, .inl (g.2 0, 10, .inl f70)), (q63, .inl (g.2 0, 10, .inl f70)), (q35, .inl (g.2 0, 60, .inl f56)), (q46, .inl (g.2 0, 60, .inl f56)), (q36, .inl (g.2 0, 20, .inl f71)), (q47, .inl (g.2 0, 20, .inl f71))]) (rV (rest := []) hx hb hml hown hE hP hD 0 rfl rfl (c273_X9_acceptIfFitting l g q1 q23 q33 q54 q55 q16 x3 (.ref q34) (.ref q35) (.ref q36) (.int 4) (.int 0) w6 w7 w8 w9 w10 w11 w12 w13 w14 w15 (.ref q20) (upd f57 10 1) (upd (upd (upd f56 97 x2) 98 x3) 99 x4) (((pk_un (by decide)).trans hf74)) (((pk_un (by decide)).trans hf75)) (((pk_un (by decide)).trans hf76)) (((pk_un (by decide)).trans hf77)) (((pk_un (by decide)).trans hf78)) (((pk_un (by decide)).trans hf79)) (((pk_un (by decide)).trans hf80)) (pk_us) (((pk_un (by decide)).trans pk_us)) (((pk_un (by decide)).trans ((pk_un (by decide)).trans ((pk_un (by decide)).trans hf73)))) (((pk_un (by decide)).trans hf81)) (((pk_un (by decide)).trans hf83)) (((pk_un (by decide)).trans hf84)) (((pk_un (by decide)).trans hf85)) (((pk_un (by decide)).trans hf86)) (((pk_un (by decide)).trans hf87)) (((pk_un (by decide)).trans hf88)) (((pk_un (by decide)).trans hf89)) (((pk_un (by decide)).trans hf90)) (((pk_un (by decide)).trans hf91)) (((pk_un (by decide)).trans hf92)) (((pk_un (by decide)).trans hf93)) (((pk_un (by decide)).trans hf94)) (((pk_un (by decide)).trans hf95)) (((pk_un (by decide)).trans hf96)) (((pk_un (by decide)).trans hf97)) (((pk_un (by decide)).trans hf98)) (((pk_un (by decide)).trans hf99)) (((pk_un (by decide)).trans hf100)) (((pk_un (by decide)).trans hf101)) (((pk_un (by decide)).trans hf102)) h82 H.size) (kV_X9_acceptIfFitting hE (e690 hE) rfl rfl ⟨(Nat.le_of_ble_eq_true rfl), (Nat.le_of_ble_eq_true rfl)⟩) [2, 0, 18, 19, 20, 17] rfl (by decide) rfl hl.1 rfl (lv_room (Nat.le_of_ble_eq_true rfl)) dX9_addOneItem_24 ⟨(Nat.le_of_ble_eq_true rfl), (Nat.le_of_ble_eq_true rfl)⟩) hP hD hS hA [2, 0, 18, 19, 20, 17] [1, 3, 4, 5, 6, 7, 8, 9, 10, 11, 12, 13, 14, 15, 16] rfl rfl (by decide) (by decide) (fun u3 H locs hP hD hS => ?_)
  have hP : va_P g.1 vwCl [(q20, .inl (g.2 3, 10, .inr (.inr (.inr (.inr f21))))), (q25, .inr (8, [.ref q44, .ref q45, .ref q46, .ref q47, .int 0, .int 4, .int 0])), (q44, .inr (5, [.ref q50, .ref q51])), (q50, .inl (g.2 0, 384, .inl f56)), (q51, .inl (g.2 0, 40, .inl f57)), (q34, .inr (9, [.ref q68, .ref q69, .int 1, .int 0])), (q45, .inr (9, [.ref q62, .ref q63, .int 1, .int 0])), (q68, .inl (g.2 0, 10, .inl f56)), (q62, .inl (g.2 0, 10, .inl f56)), (q69, .inl (g.2 0, 10, .inl f70)), (q63, .inl (g.2 0, 10, .inl f70)), (q35, .inl (g.2 0, 60, .inl f56)), (q46, .inl (g.2 0, 60, .inl f56)), (q36, .inl (g.2 0, 20, .inl f71)), (q47, .inl (g.2 0, 20, .inl f71)), (q54, .inl (g.2 0, 384, .inl (upd (upd (upd f56 97 x2) 98 x3) 99 x4))), (q55, .inl (g.2 0, 40, .inl (upd (upd (upd (upd (upd (upd (upd (upd (upd (upd (upd (upd f57 10 1) 1 0) 4 1) 9 1) 11 x3) 12 1) 14 1) 19 1) 24 1) 29 1) 34 1) 39 1))), (q33, .inr (5, [.ref q54, .ref q55])), (q23, .inr (8, [.ref q33, .ref q34, .ref q35, .ref q36, .int 0, .int 4, .int 0])), (q16, .inr (10, [.ref q20, .int 1, .int 1])), (q1, .inr (11, [.ref q16, w6, w7, w8, w9, w10, w11, w12, .int 0, .int 0, w15]))] H := hP
  have hD : va_D A [(q20, .inl (g.2 3, 10, .inr (.inr (.inr (.inr f21))))), (q25, .inr (8, [.ref q44, .ref q45, .ref q46, .ref q47, .int 0, .int 4, .int 0])), (q44, .inr (5, [.ref q50, .ref q51])), (q50, .inl (g.2 0, 384, .inl f56)), (q51, .inl (g.2 0, 40, .inl f57)), (q34, .inr (9, [.ref q68, .ref q69, .int 1, .int 0])), (q45, .inr (9, [.ref q62, .ref q63, .int 1, .int 0])), (q68, .inl (g.2 0, 10, .inl f56)), (q62, .inl (g.2 0, 10, .inl f56)), (q69, .inl (g.2 0, 10, .inl f70)), (q63, .inl (g.2 0, 10, .inl f70)), (q35, .inl (g.2 0, 60, .inl f56)), (q46, .inl (g.2 0, 60, .inl f56)), (q36, .inl (g.2 0, 20, .inl f71)), (q47, .inl (g.2 0, 20, .inl f71)), (q54, .inl (g.2 0, 384, .inl (upd (upd (upd f56 97 x2) 98 x3) 99 x4))), (q55, .inl (g.2 0, 40, .inl (upd (upd (upd (upd (upd (upd (upd (upd (upd (upd (upd (upd f57 10 1) 1 0) 4 1) 9 1) 11 x3) 12 1) 14 1) 19 1) 24 1) 29 1) 34 1) 39 1))), (q33, .inr (5, [.ref q54, .ref q55])), (q23, .inr (8, [.ref q33, .ref q34, .ref q35, .ref q36, .int 0, .int 4, .int 0])), (q16, .inr (10, [.ref q20, .int 1, .int 1])), (q1, .inr (11, [.ref q16, w6, w7, w8, w9, w10, w11, w12, .int 0, .int 0, w15]))] := hD
  refine lv_aload hx hb dX9_addOneItem_27 (lv_at hl 0 rfl) ?_
  refine gf_RX9_108 hx hb hown hE hP 18 rfl rfl dX9_addOneItem_29 ?_
  refine lv_iload_n hx hb dX9_addOneItem_32 rfl (lv_at hl 2 rfl) ?_
  refine lv_iconst (v := 0) hx hb dX9_addOneItem_33 (by decide) ?_
  refine g_i (wr := [(q20, .inl (g.2 3, 10, .inr (.inr (.inr (.inr f21))))), (q25, .inr (8, [.ref q44, .ref q45, .ref q46, .ref q47, .int 0, .int 4, .int 0])), (q44, .inr (5, [.ref q50, .ref q51])), (q50, .inl (g.2 0, 384, .inl f56)), (q51, .inl (g.2 0, 40, .inl f57)), (q34, .inr (9, [.ref q68, .ref q69, .int 1, .int 0])), (q45, .inr (9, [.ref q62, .ref q63, .int 1, .int 0])), (q68, .inl (g.2 0, 10, .inl f56)), (q62, .inl (g.2 0, 10, .inl f56)), (q69, .inl (g.2 0, 10, .inl f70)), (q63, .inl (g.2 0, 10, .inl f70)), (q35, .inl (g.2 0, 60, .inl f56)), (q46, .inl (g.2 0, 60, .inl f56)), (q36, .inl (g.2 0, 20, .inl f71)), (q47, .inl (g.2 0, 20, .inl f71)), (q54, .inl (g.2 0, 384, .inl (upd (upd (upd f56 97 x2) 98 x3) 99 x4))), (q23, .inr (8, [.ref q33, .ref q34, .ref q35, .ref q36, .int 0, .int 4, .int 0])), (q16, .inr (10, [.ref q20, .int 1, .int 1])), (q1, .inr (11, [.ref q16, w6, w7, w8, w9, w10, w11, w12, .int 0, .int 0, w15]))]) (rV (rest := []) hx hb hml hown hE hP hD 17 rfl rfl (c263_X3_figure l g q33 q55 (.ref q54) (upd (upd (upd (upd (upd (upd (upd (upd (upd (upd (upd (upd f57 10 1) 1 0) 4 1) 9 1) 11 x3) 12 1) 14 1) 19 1) 24 1) 29 1) 34 1) 39 1) (((pk_un (by decide)).trans ((pk_un (by decide)).trans ((pk_un (by decide)).trans ((pk_un (by decide)).trans ((pk_un (by decide)).trans ((pk_un (by decide)).trans ((pk_un (by decide)).trans ((pk_un (by decide)).trans ((pk_un (by decide)).trans ((pk_un (by decide)).trans ((pk_un (by decide)).trans pk_us)))))))))))) H.size) (kV_X3_figure hE (e668 hE) rfl rfl ⟨(Nat.le_of_ble_eq_true rfl), (Nat.le_of_ble_eq_true rfl)⟩) [16, 17] rfl (by decide) rfl hl.1 rfl (lv_room (Nat.le_of_ble_eq_true rfl)) dX9_addOneItem_34 ⟨(Nat.le_of_ble_eq_true rfl), (Nat.le_of_ble_eq_true rfl)⟩) hP hD hS hA [16, 17] [0, 1, 2, 3, 4, 5, 6, 7, 8, 9, 10, 11, 12, 13, 14, 15, 18, 19, 20] rfl rfl (by decide) (by decide) (fun u4 H locs hP hD hS => ?_)
  have hP : va_P g.1 vwCl [(q20, .inl (g.2 3, 10, .inr (.inr (.inr (.inr f21))))), (q25, .inr (8, [.ref q44, .ref q45, .ref q46, .ref q47, .int 0, .int 4, .int 0])), (q44, .inr (5, [.ref q50, .ref q51])), (q50, .inl (g.2 0, 384, .inl f56)), (q51, .inl (g.2 0, 40, .inl f57)), (q34, .inr (9, [.ref q68, .ref q69, .int 1, .int 0])), (q45, .inr (9, [.ref q62, .ref q63, .int 1, .int 0])), (q68, .inl (g.2 0, 10, .inl f56)), (q62, .inl (g.2 0, 10, .inl f56)), (q69, .inl (g.2 0, 10, .inl f70)), (q63, .inl (g.2 0, 10, .inl f70)), (q35, .inl (g.2 0, 60, .inl f56)), (q46, .inl (g.2 0, 60, .inl f56)), (q36, .inl (g.2 0, 20, .inl f71)), (q47, .inl (g.2 0, 20, .inl f71)), (q54, .inl (g.2 0, 384, .inl (upd (upd (upd f56 97 x2) 98 x3) 99 x4))), (q23, .inr (8, [.ref q33, .ref q34, .ref q35, .ref q36, .int 0, .int 4, .int 0])), (q16, .inr (10, [.ref q20, .int 1, .int 1])), (q1, .inr (11, [.ref q16, w6, w7, w8, w9, w10, w11, w12, .int 0, .int 0, w15])), (q55, .inl (g.2 0, 40, .inl (upd (upd (upd (upd (upd (upd (upd (upd (upd (upd (upd (upd f57 10 1) 1 0) 4 1) 9 1) 11 x3) 12 1) 14 1) 19 1) 24 1) 29 1) 34 1) 39 1))), (q33, .inr (5, [.ref q54, .ref q55]))] H := hP
  have hD : va_D A [(q20, .inl (g.2 3, 10, .inr (.inr (.inr (.inr f21))))), (q25, .inr (8, [.ref q44, .ref q45, .ref q46, .ref q47, .int 0, .int 4, .int 0])), (q44, .inr (5, [.ref q50, .ref q51])), (q50, .inl (g.2 0, 384, .inl f56)), (q51, .inl (g.2 0, 40, .inl f57)), (q34, .inr (9, [.ref q68, .ref q69, .int 1, .int 0])), (q45, .inr (9, [.ref q62, .ref q63, .int 1, .int 0])), (q68, .inl (g.2 0, 10, .inl f56)), (q62, .inl (g.2 0, 10, .inl f56)), (q69, .inl (g.2 0, 10, .inl f70)), (q63, .inl (g.2 0, 10, .inl f70)), (q35, .inl (g.2 0, 60, .inl f56)), (q46, .inl (g.2 0, 60, .inl f56)), (q36, .inl (g.2 0, 20, .inl f71)), (q47, .inl (g.2 0, 20, .inl f71)), (q54, .inl (g.2 0, 384, .inl (upd (upd (upd f56 97 x2) 98 x3) 99 x4))), (q23, .inr (8, [.ref q33, .ref q34, .ref q35, .ref q36, .int 0, .int 4, .int 0])), (q16, .inr (10, [.ref q20, .int 1, .int 1])), (q1, .inr (11, [.ref q16, w6, w7, w8, w9, w10, w11, w12, .int 0, .int 0, w15])), (q55, .inl (g.2 0, 40, .inl (upd (upd (upd (upd (upd (upd (upd (upd (upd (upd (upd (upd f57 10 1) 1 0) 4 1) 9 1) 11 x3) 12 1) 14 1) 19 1) 24 1) 29 1) 34 1) 39 1))), (q33, .inr (5, [.ref q54, .ref q55]))] := hD
  exact x_zret hx hb hr rfl rfl hlocks hP hD hS hAe hsz (Nat.le_of_ble_eq_true rfl) (Nat.le_of_ble_eq_true rfl) (fun _ => 0) [0, 1, 2, 3, 4, 5, 6, 7, 8, 9, 10, 11, 12, 13, 14, 15, 16, 17, 18, 19, 20] (by decide) rfl dX9_addOneItem_37

set_option maxHeartbeats 4000000 in
set_option maxRecDepth 100000 in
theorem c275_X9_addNote (l : Launch) (g : gG) (q1 q22 q26 q29 q31 q39 q40 q41 q42 q50 q51 q52 q53 q56 q57 q60 q61 q68 q69 q74 q75 : Nat) (x2 x3 x4 : Int32) (w12 w13 w14 w15 w16 w17 w18 w19 w20 w21 w36 w37 w38 w72 w73 : Value) (f27 : Nat → Option Nat) (f62 : Nat → Int32) (f63 : Nat → Int32) (f76 : Nat → Int32) (f77 : Nat → Int32) (hf28 : f27 1 = some q29) (hf30 : f27 0 = some q31) (hf78 : f63 10 = 0) (hf79 : f62 96 = 0) (hf80 : f63 0 = 0) (hf81 : f63 2 = 0) (hf82 : f63 3 = 0) (hf83 : f63 5 = 0) (hf84 : f63 6 = 0) (hf85 : f63 7 = 0) (hf86 : f63 8 = 0) (hf87 : f63 13 = 0) (hf88 : f63 15 = 0) (hf89 : f63 16 = 0) (hf90 : f63 17 = 0) (hf91 : f63 18 = 0) (hf92 : f63 20 = 0) (hf93 : f63 21 = 0) (hf94 : f63 22 = 0) (hf95 : f63 23 = 0) (hf96 : f63 25 = 0) (hf97 : f63 26 = 0) (hf98 : f63 27 = 0) (hf99 : f63 28 = 0) (hf100 : f63 30 = 0) (hf101 : f63 31 = 0) (hf102 : f63 32 = 0) (hf103 : f63 33 = 0) (hf104 : f63 35 = 0) (hf105 : f63 36 = 0) (hf106 : f63 37 = 0) (hf107 : f63 38 = 0) (h5 : (0 : Int32) ≤ x2) (h6 : x2 ≤ 99) (h7 : (1 : Int32) ≤ x3) (h8 : x3 ≤ 16) (h9 : (1 : Int32) ≤ x4) (h10 : x4 ≤ 9) (sz : Nat) : Met l yX9_addNote [Cond.code yX9_addNote cX9_addNote 5 (some .int)] ({ frames := 6, cells := 0, slots := 0, locals := 174 } : Room) (va_Pc [.ref q1, .int 2, .int x2, .int x3, .int x4] (PX g sz [(q42, .inl (g.2 0, 20, .inl f77)), (q53, .inl (g.2 0, 20, .inl f77)), (q41, .inl (g.2 0, 60, .inl f62)), (q52, .inl (g.2 0, 60, .inl f62)), (q75, .inl (g.2 0, 10, .inl f76)), (q69, .inl (g.2 0, 10, .inl f76)), (q74, .inl (g.2 0, 10, .inl f62)), (q68, .inl (g.2 0, 10, .inl f62)), (q40, .inr (9, [.ref q74, .ref q75, w72, w73])), (q51, .inr (9, [.ref q68, .ref q69, .int 1, .int 0])), (q61, .inl (g.2 0, 40, .inl f63)), (q57, .inl (g.2 0, 40, .inl f63)), (q60, .inl (g.2 0, 384, .inl f62)), (q56, .inl (g.2 0, 384, .inl f62)), (q39, .inr (5, [.ref q60, .ref q61])), (q50, .inr (5, [.ref q56, .ref q57])), (q31, .inr (8, [.ref q50, .ref q51, .ref q52, .ref q53, .int 0, .int 4, .int 0])), (q29, .inr (8, [.ref q39, .ref q40, .ref q41, .ref q42, w36, w37, w38])), (q26, .inl (g.2 3, 10, .inr (.inr (.inr (.inr f27))))), (q22, .inr (10, [.ref q26, .int 0, .int 0])), (q1, .inr (11, [.ref q22, w12, w13, w14, w15, w16, w17, w18, w19, w20, w21]))])) (QI g [(q42, .inl (g.2 0, 20, .inl f77)), (q53, .inl (g.2 0, 20, .inl f77)), (q41, .inl (g.2 0, 60, .inl f62)), (q52, .inl (g.2 0, 60, .inl f62)), (q75, .inl (g.2 0, 10, .inl f76)), (q69, .inl (g.2 0, 10, .inl f76)), (q74, .inl (g.2 0, 10, .inl f62)), (q68, .inl (g.2 0, 10, .inl f62)), (q40, .inr (9, [.ref q74, .ref q75, w72, w73])), (q51, .inr (9, [.ref q68, .ref q69, .int 1, .int 0])), (q61, .inl (g.2 0, 40, .inl f63)), (q57, .inl (g.2 0, 40, .inl f63)), (q60, .inl (g.2 0, 384, .inl f62)), (q56, .inl (g.2 0, 384, .inl f62)), (q39, .inr (5, [.ref q60, .ref q61])), (q50, .inr (5, [.ref q56, .ref q57])), (q31, .inr (8, [.ref q50, .ref q51, .ref q52, .ref q53, .int 0, .int 4, .int 0])), (q29, .inr (8, [.ref q39, .ref q40, .ref q41, .ref q42, w36, w37, w38])), (q26, .inl (g.2 3, 10, .inr (.inr (.inr (.inr f27))))), (q22, .inr (10, [.ref q26, .int 0, .int 0])), (q1, .inr (11, [.ref q22, w12, w13, w14, w15, w16, w17, w18, w19, w20, w21]))] sz 1 (fun _ => [(q26, .inl (g.2 3, 10, .inr (.inr (.inr (.inr f27))))), (q31, .inr (8, [.ref q50, .ref q51, .ref q52, .ref q53, .int 0, .int 4, .int 0])), (q50, .inr (5, [.ref q56, .ref q57])), (q56, .inl (g.2 0, 384, .inl f62)), (q57, .inl (g.2 0, 40, .inl f63)), (q40, .inr (9, [.ref q74, .ref q75, .int 1, .int 0])), (q51, .inr (9, [.ref q68, .ref q69, .int 1, .int 0])), (q74, .inl (g.2 0, 10, .inl f62)), (q68, .inl (g.2 0, 10, .inl f62)), (q75, .inl (g.2 0, 10, .inl f76)), (q69, .inl (g.2 0, 10, .inl f76)), (q41, .inl (g.2 0, 60, .inl f62)), (q52, .inl (g.2 0, 60, .inl f62)), (q42, .inl (g.2 0, 20, .inl f77)), (q53, .inl (g.2 0, 20, .inl f77)), (q60, .inl (g.2 0, 384, .inl (upd (upd (upd f62 97 x2) 98 x3) 99 x4))), (q29, .inr (8, [.ref q39, .ref q40, .ref q41, .ref q42, .int 0, .int 4, .int 0])), (q22, .inr (10, [.ref q26, .int 1, .int 1])), (q1, .inr (11, [.ref q22, w12, w13, w14, w15, w16, w17, w18, .int 0, .int 0, w21])), (q61, .inl (g.2 0, 40, .inl (upd (upd (upd (upd (upd (upd (upd (upd (upd (upd (upd (upd f63 10 1) 1 0) 4 1) 9 1) 11 x3) 12 1) 14 1) 19 1) 24 1) 29 1) 34 1) 39 1))), (q39, .inr (5, [.ref q60, .ref q61]))])) 0 0 (va_A [(q42, .inl (g.2 0, 20, .inl f77)), (q53, .inl (g.2 0, 20, .inl f77)), (q41, .inl (g.2 0, 60, .inl f62)), (q52, .inl (g.2 0, 60, .inl f62)), (q75, .inl (g.2 0, 10, .inl f76)), (q69, .inl (g.2 0, 10, .inl f76)), (q74, .inl (g.2 0, 10, .inl f62)), (q68, .inl (g.2 0, 10, .inl f62)), (q40, .inr (9, [.ref q74, .ref q75, w72, w73])), (q51, .inr (9, [.ref q68, .ref q69, .int 1, .int 0])), (q61, .inl (g.2 0, 40, .inl f63)), (q57, .inl (g.2 0, 40, .inl f63)), (q60, .inl (g.2 0, 384, .inl f62)), (q56, .inl (g.2 0, 384, .inl f62)), (q39, .inr (5, [.ref q60, .ref q61])), (q50, .inr (5, [.ref q56, .ref q57])), (q31, .inr (8, [.ref q50, .ref q51, .ref q52, .ref q53, .int 0, .int 4, .int 0])), (q29, .inr (8, [.ref q39, .ref q40, .ref q41, .ref q42, w36, w37, w38])), (q26, .inl (g.2 3, 10, .inr (.inr (.inr (.inr f27))))), (q22, .inr (10, [.ref q26, .int 0, .int 0])), (q1, .inr (11, [.ref q22, w12, w13, w14, w15, w16, w17, w18, w19, w20, w21]))] sz) := by
  refine ofN (by decide) (Nat.le_of_ble_eq_true rfl) rfl ?_
  intro p e s m args below meth c A ls hAe hsz hx hb hml hr hlocks hin hown hE hP hD hA hS hl
  have hown : s.vm.findClass RX9 = some m.cls := hown
  refine lv_iload_n hx hb dX9_addNote_0 rfl (lv_at hl 1 rfl) ?_
  refine g0_v (rS (rest := []) hx hb hml hown hE hP hD (c89_X9_requirePattern l g 2 (by decide) (by decide) s.heap.size) (kS_X9_requirePattern hE (e617 hE) rfl rfl ⟨(Nat.le_of_ble_eq_true rfl), (Nat.le_of_ble_eq_true rfl)⟩) [] rfl (by decide) rfl hl.1 rfl (lv_room (Nat.le_of_ble_eq_true rfl)) dX9_addNote_1 ⟨(Nat.le_of_ble_eq_true rfl), (Nat.le_of_ble_eq_true rfl)⟩) hP hD hS hA (fun u9 H locs hP hS => ?_)
  refine lv_iload_n hx hb dX9_addNote_4 rfl (lv_at hl 2 rfl) ?_
  refine lv_iconst (v := 0) hx hb dX9_addNote_5 (by decide) ?_
  refine lv_bipush (v := 99) hx hb dX9_addNote_6 (by decide) ?_
  refine g0_v (rS (rest := []) hx hb hml hown hE hP hD (c99_X9_requireRange l g x2 h5 h6 H.size) (kS_X9_requireRange hE (e636 hE) rfl rfl ⟨(Nat.le_of_ble_eq_true rfl), (Nat.le_of_ble_eq_true rfl)⟩) [] rfl (by decide) rfl hl.1 rfl (lv_room (Nat.le_of_ble_eq_true rfl)) dX9_addNote_8 ⟨(Nat.le_of_ble_eq_true rfl), (Nat.le_of_ble_eq_true rfl)⟩) hP hD hS hA (fun u9 H locs hP hS => ?_)
  refine lv_iload_n hx hb dX9_addNote_11 rfl (lv_at hl 3 rfl) ?_
  refine lv_iconst (v := 1) hx hb dX9_addNote_12 (by decide) ?_
  refine lv_bipush (v := 16) hx hb dX9_addNote_13 (by decide) ?_
  refine g0_v (rS (rest := []) hx hb hml hown hE hP hD (c108_X9_requireRange l g x3 h7 h8 H.size) (kS_X9_requireRange hE (e636 hE) rfl rfl ⟨(Nat.le_of_ble_eq_true rfl), (Nat.le_of_ble_eq_true rfl)⟩) [] rfl (by decide) rfl hl.1 rfl (lv_room (Nat.le_of_ble_eq_true rfl)) dX9_addNote_15 ⟨(Nat.le_of_ble_eq_true rfl), (Nat.le_of_ble_eq_true rfl)⟩) hP hD hS hA (fun u9 H locs hP hS => ?_)
  refine lv_iload hx hb dX9_addNote_18 (lv_at hl 4 rfl) ?_
  refine lv_iconst (v := 1) hx hb dX9_addNote_20 (by decide) ?_
  refine lv_bipush (v := 9) hx hb dX9_addNote_21 (by decide) ?_
  refine g0_v (rS (rest := []) hx hb hml hown hE hP hD (c117_X9_requireRange l g x4 h9 h10 H.size) (kS_X9_requireRange hE (e636 hE) rfl rfl ⟨(Nat.le_of_ble_eq_true rfl), (Nat.le_of_ble_eq_true rfl)⟩) [] rfl (by decide) rfl hl.1 rfl (lv_room (Nat.le_of_ble_eq_true rfl)) dX9_addNote_23 ⟨(Nat.le_of_ble_eq_true rfl), (Nat.le_of_ble_eq_true rfl)⟩) hP hD hS hA (fun u9 H locs hP hS => ?_)
  refine lv_aload_n hx hb dX9_addNote_26 rfl (lv_at hl 0 rfl) ?_
  refine lv_iload_n hx hb dX9_addNote_27 rfl (lv_at hl 1 rfl) ?_
  refine lv_iconst (v := 0) hx hb dX9_addNote_28 (by decide) ?_
  refine lv_iload_n hx hb dX9_addNote_29 rfl (lv_at hl 2 rfl) ?_
  refine lv_iload_n hx hb dX9_addNote_30 rfl (lv_at hl 3 rfl) ?_
  refine lv_iload hx hb dX9_addNote_31 (lv_at hl 4 rfl) ?_
  refine g_i (wr := []) (rV (rest := []) hx hb hml hown hE hP hD 20 rfl rfl (c274_X9_addOneItem l g q1 q22 q26 q29 q31 q39 q40 q41 q42 q50 q51 q52 q53 q56 q57 q60 q61 q68 q69 q74 q75 x2 x3 x4 w12 w13 w14 w15 w16 w17 w18 w19 w20 w21 w36 w37 w38 w72 w73 f27 f62 f63 f76 f77 (hf28) (hf30) (hf78) (hf79) (hf80) (hf81) (hf82) (hf83) (hf84) (hf85) (hf86) (hf87) (hf88) (hf89) (hf90) (hf91) (hf92) (hf93) (hf94) (hf95) (hf96) (hf97) (hf98) (hf99) (hf100) (hf101) (hf102) (hf103) (hf104) (hf105) (hf106) (hf107) (i_lele h8 (by decide)) H.size) (kV_X9_addOneItem hE (e655 hE) rfl rfl ⟨(Nat.le_of_ble_eq_true rfl), (Nat.le_of_ble_eq_true rfl)⟩) [0, 1, 2, 3, 4, 5, 6, 7, 8, 9, 10, 11, 12, 13, 14, 15, 16, 17, 18, 19, 20] rfl (by decide) rfl hl.1 rfl (lv_room (Nat.le_of_ble_eq_true rfl)) dX9_addNote_33 ⟨(Nat.le_of_ble_eq_true rfl), (Nat.le_of_ble_eq_true rfl)⟩) hP hD hS hA [0, 1, 2, 3, 4, 5, 6, 7, 8, 9, 10, 11, 12, 13, 14, 15, 16, 17, 18, 19, 20] [] rfl rfl (by decide) (by decide) (fun u5 H locs hP hD hS => ?_)
  have hP : va_P g.1 vwCl [(q26, .inl (g.2 3, 10, .inr (.inr (.inr (.inr f27))))), (q31, .inr (8, [.ref q50, .ref q51, .ref q52, .ref q53, .int 0, .int 4, .int 0])), (q50, .inr (5, [.ref q56, .ref q57])), (q56, .inl (g.2 0, 384, .inl f62)), (q57, .inl (g.2 0, 40, .inl f63)), (q40, .inr (9, [.ref q74, .ref q75, .int 1, .int 0])), (q51, .inr (9, [.ref q68, .ref q69, .int 1, .int 0])), (q74, .inl (g.2 0, 10, .inl f62)), (q68, .inl (g.2 0, 10, .inl f62)), (q75, .inl (g.2 0, 10, .inl f76)), (q69, .inl (g.2 0, 10, .inl f76)), (q41, .inl (g.2 0, 60, .inl f62)), (q52, .inl (g.2 0, 60, .inl f62)), (q42, .inl (g.2 0, 20, .inl f77)), (q53, .inl (g.2 0, 20, .inl f77)), (q60, .inl (g.2 0, 384, .inl (upd (upd (upd f62 97 x2) 98 x3) 99 x4))), (q29, .inr (8, [.ref q39, .ref q40, .ref q41, .ref q42, .int 0, .int 4, .int 0])), (q22, .inr (10, [.ref q26, .int 1, .int 1])), (q1, .inr (11, [.ref q22, w12, w13, w14, w15, w16, w17, w18, .int 0, .int 0, w21])), (q61, .inl (g.2 0, 40, .inl (upd (upd (upd (upd (upd (upd (upd (upd (upd (upd (upd (upd f63 10 1) 1 0) 4 1) 9 1) 11 x3) 12 1) 14 1) 19 1) 24 1) 29 1) 34 1) 39 1))), (q39, .inr (5, [.ref q60, .ref q61]))] H := hP
  have hD : va_D A [(q26, .inl (g.2 3, 10, .inr (.inr (.inr (.inr f27))))), (q31, .inr (8, [.ref q50, .ref q51, .ref q52, .ref q53, .int 0, .int 4, .int 0])), (q50, .inr (5, [.ref q56, .ref q57])), (q56, .inl (g.2 0, 384, .inl f62)), (q57, .inl (g.2 0, 40, .inl f63)), (q40, .inr (9, [.ref q74, .ref q75, .int 1, .int 0])), (q51, .inr (9, [.ref q68, .ref q69, .int 1, .int 0])), (q74, .inl (g.2 0, 10, .inl f62)), (q68, .inl (g.2 0, 10, .inl f62)), (q75, .inl (g.2 0, 10, .inl f76)), (q69, .inl (g.2 0, 10, .inl f76)), (q41, .inl (g.2 0, 60, .inl f62)), (q52, .inl (g.2 0, 60, .inl f62)), (q42, .inl (g.2 0, 20, .inl f77)), (q53, .inl (g.2 0, 20, .inl f77)), (q60, .inl (g.2 0, 384, .inl (upd (upd (upd f62 97 x2) 98 x3) 99 x4))), (q29, .inr (8, [.ref q39, .ref q40, .ref q41, .ref q42, .int 0, .int 4, .int 0])), (q22, .inr (10, [.ref q26, .int 1, .int 1])), (q1, .inr (11, [.ref q22, w12, w13, w14, w15, w16, w17, w18, .int 0, .int 0, w21])), (q61, .inl (g.2 0, 40, .inl (upd (upd (upd (upd (upd (upd (upd (upd (upd (upd (upd (upd f63 10 1) 1 0) 4 1) 9 1) 11 x3) 12 1) 14 1) 19 1) 24 1) 29 1) 34 1) 39 1))), (q39, .inr (5, [.ref q60, .ref q61]))] := hD
  exact x_zret hx hb hr rfl rfl hlocks hP hD hS hAe hsz (Nat.le_of_ble_eq_true rfl) (Nat.le_of_ble_eq_true rfl) (fun _ => 0) [0, 1, 2, 3, 4, 5, 6, 7, 8, 9, 10, 11, 12, 13, 14, 15, 16, 17, 18, 19, 20] (by decide) rfl dX9_addNote_36

set_option maxHeartbeats 4000000 in
set_option maxRecDepth 100000 in
theorem c276_L_addNote (l : Launch) (g : gG) (hlx : l.stackTraces = false) (q1 q5 q23 q27 q30 q32 q40 q41 q42 q43 q51 q52 q53 q54 q57 q58 q61 q62 q69 q70 q75 q76 : Nat) (x2 x3 x4 : Int32) (w13 w14 w15 w16 w17 w18 w19 w20 w21 w22 w37 w38 w39 w73 w74 : Value) (f28 : Nat → Option Nat) (f63 : Nat → Int32) (f64 : Nat → Int32) (f77 : Nat → Int32) (f78 : Nat → Int32) (f109 : Nat → Int64) (hf29 : f28 1 = some q30) (hf31 : f28 0 = some q32) (hf79 : f64 10 = 0) (hf80 : f63 96 = 0) (hf81 : f64 0 = 0) (hf82 : f64 2 = 0) (hf83 : f64 3 = 0) (hf84 : f64 5 = 0) (hf85 : f64 6 = 0) (hf86 : f64 7 = 0) (hf87 : f64 8 = 0) (hf88 : f64 13 = 0) (hf89 : f64 15 = 0) (hf90 : f64 16 = 0) (hf91 : f64 17 = 0) (hf92 : f64 18 = 0) (hf93 : f64 20 = 0) (hf94 : f64 21 = 0) (hf95 : f64 22 = 0) (hf96 : f64 23 = 0) (hf97 : f64 25 = 0) (hf98 : f64 26 = 0) (hf99 : f64 27 = 0) (hf100 : f64 28 = 0) (hf101 : f64 30 = 0) (hf102 : f64 31 = 0) (hf103 : f64 32 = 0) (hf104 : f64 33 = 0) (hf105 : f64 35 = 0) (hf106 : f64 36 = 0) (hf107 : f64 37 = 0) (hf108 : f64 38 = 0) (h6 : (0 : Int32) ≤ x2) (h7 : x2 ≤ 99) (h8 : (1 : Int32) ≤ x3) (h9 : x3 ≤ 16) (h10 : (1 : Int32) ≤ x4) (h11 : x4 ≤ 9) (sz : Nat) : Met l yL_addNote [Cond.codeWith yL_addNote cL_addNote 7 (some .int) [(0, 14, 17, 13), (0, 14, 21, 15), (0, 14, 25, 17)]] ({ frames := 7, cells := 0, slots := 0, locals := 198 } : Room) (va_Pc [.ref q1, .int 2, .int x2, .int x3, .int x4, .ref q5] (PZ g sz [(q5, .inl (g.2 1, 1, .inr (.inl f109))), (q43, .inl (g.2 0, 20, .inl f78)), (q54, .inl (g.2 0, 20, .inl f78)), (q42, .inl (g.2 0, 60, .inl f63)), (q53, .inl (g.2 0, 60, .inl f63)), (q76, .inl (g.2 0, 10, .inl f77)), (q70, .inl (g.2 0, 10, .inl f77)), (q75, .inl (g.2 0, 10, .inl f63)), (q69, .inl (g.2 0, 10, .inl f63)), (q41, .inr (9, [.ref q75, .ref q76, w73, w74])), (q52, .inr (9, [.ref q69, .ref q70, .int 1, .int 0])), (q62, .inl (g.2 0, 40, .inl f64)), (q58, .inl (g.2 0, 40, .inl f64)), (q61, .inl (g.2 0, 384, .inl f63)), (q57, .inl (g.2 0, 384, .inl f63)), (q40, .inr (5, [.ref q61, .ref q62])), (q51, .inr (5, [.ref q57, .ref q58])), (q32, .inr (8, [.ref q51, .ref q52, .ref q53, .ref q54, .int 0, .int 4, .int 0])), (q30, .inr (8, [.ref q40, .ref q41, .ref q42, .ref q43, w37, w38, w39])), (q27, .inl (g.2 3, 10, .inr (.inr (.inr (.inr f28))))), (q23, .inr (10, [.ref q27, .int 0, .int 0])), (q1, .inr (11, [.ref q23, w13, w14, w15, w16, w17, w18, w19, w20, w21, w22]))])) (QI g [(q5, .inl (g.2 1, 1, .inr (.inl f109))), (q43, .inl (g.2 0, 20, .inl f78)), (q54, .inl (g.2 0, 20, .inl f78)), (q42, .inl (g.2 0, 60, .inl f63)), (q53, .inl (g.2 0, 60, .inl f63)), (q76, .inl (g.2 0, 10, .inl f77)), (q70, .inl (g.2 0, 10, .inl f77)), (q75, .inl (g.2 0, 10, .inl f63)), (q69, .inl (g.2 0, 10, .inl f63)), (q41, .inr (9, [.ref q75, .ref q76, w73, w74])), (q52, .inr (9, [.ref q69, .ref q70, .int 1, .int 0])), (q62, .inl (g.2 0, 40, .inl f64)), (q58, .inl (g.2 0, 40, .inl f64)), (q61, .inl (g.2 0, 384, .inl f63)), (q57, .inl (g.2 0, 384, .inl f63)), (q40, .inr (5, [.ref q61, .ref q62])), (q51, .inr (5, [.ref q57, .ref q58])), (q32, .inr (8, [.ref q51, .ref q52, .ref q53, .ref q54, .int 0, .int 4, .int 0])), (q30, .inr (8, [.ref q40, .ref q41, .ref q42, .ref q43, w37, w38, w39])), (q27, .inl (g.2 3, 10, .inr (.inr (.inr (.inr f28))))), (q23, .inr (10, [.ref q27, .int 0, .int 0])), (q1, .inr (11, [.ref q23, w13, w14, w15, w16, w17, w18, w19, w20, w21, w22]))] sz 0 (fun _ => [(q5, .inl (g.2 1, 1, .inr (.inl (vp_updL f109 0 1))))])) 0 0 (va_A [(q5, .inl (g.2 1, 1, .inr (.inl f109))), (q43, .inl (g.2 0, 20, .inl f78)), (q54, .inl (g.2 0, 20, .inl f78)), (q42, .inl (g.2 0, 60, .inl f63)), (q53, .inl (g.2 0, 60, .inl f63)), (q76, .inl (g.2 0, 10, .inl f77)), (q70, .inl (g.2 0, 10, .inl f77)), (q75, .inl (g.2 0, 10, .inl f63)), (q69, .inl (g.2 0, 10, .inl f63)), (q41, .inr (9, [.ref q75, .ref q76, w73, w74])), (q52, .inr (9, [.ref q69, .ref q70, .int 1, .int 0])), (q62, .inl (g.2 0, 40, .inl f64)), (q58, .inl (g.2 0, 40, .inl f64)), (q61, .inl (g.2 0, 384, .inl f63)), (q57, .inl (g.2 0, 384, .inl f63)), (q40, .inr (5, [.ref q61, .ref q62])), (q51, .inr (5, [.ref q57, .ref q58])), (q32, .inr (8, [.ref q51, .ref q52, .ref q53, .ref q54, .int 0, .int 4, .int 0])), (q30, .inr (8, [.ref q40, .ref q41, .ref q42, .ref q43, w37, w38, w39])), (q27, .inl (g.2 3, 10, .inr (.inr (.inr (.inr f28))))), (q23, .inr (10, [.ref q27, .int 0, .int 0])), (q1, .inr (11, [.ref q23, w13, w14, w15, w16, w17, w18, w19, w20, w21, w22]))] sz) := by
  refine ofH (by decide) (Nat.le_of_ble_eq_true rfl) rfl ?_
  intro p e s m args below meth c A ls hAe hsz hx hb hml hr hlocks hin hown hE hP hD hA hS hl htb hz
  have hown : s.vm.findClass RL = some m.cls := hown
  refine lv_aload hx hb dL_addNote_0 (lv_at hl 5 rfl) ?_
  refine lv_iconst (v := 0) hx hb dL_addNote_2 (by decide) ?_
  refine lv_aload_n hx hb dL_addNote_3 rfl (lv_at hl 0 rfl) ?_
  refine lv_iload_n hx hb dL_addNote_4 rfl (lv_at hl 1 rfl) ?_
  refine lv_iload_n hx hb dL_addNote_5 rfl (lv_at hl 2 rfl) ?_
  refine lv_iload_n hx hb dL_addNote_6 rfl (lv_at hl 3 rfl) ?_
  refine lv_iload hx hb dL_addNote_7 (lv_at hl 4 rfl) ?_
  refine g_i (wr := [(q5, .inl (g.2 1, 1, .inr (.inl f109)))]) (rV (rest := [.int 0, .ref q5]) hx hb hml hown hE hP hD 21 rfl rfl (c275_X9_addNote l g q1 q23 q27 q30 q32 q40 q41 q42 q43 q51 q52 q53 q54 q57 q58 q61 q62 q69 q70 q75 q76 x2 x3 x4 w13 w14 w15 w16 w17 w18 w19 w20 w21 w22 w37 w38 w39 w73 w74 f28 f63 f64 f77 f78 (hf29) (hf31) (hf79) (hf80) (hf81) (hf82) (hf83) (hf84) (hf85) (hf86) (hf87) (hf88) (hf89) (hf90) (hf91) (hf92) (hf93) (hf94) (hf95) (hf96) (hf97) (hf98) (hf99) (hf100) (hf101) (hf102) (hf103) (hf104) (hf105) (hf106) (hf107) (hf108) h6 h7 h8 h9 h10 h11 s.heap.size) (kV_X9_addNote hE (e613 hE) rfl rfl ⟨(Nat.le_of_ble_eq_true rfl), (Nat.le_of_ble_eq_true rfl)⟩) [1, 2, 3, 4, 5, 6, 7, 8, 9, 10, 11, 12, 13, 14, 15, 16, 17, 18, 19, 20, 21] rfl (by decide) rfl hl.1 rfl (lv_room (Nat.le_of_ble_eq_true rfl)) dL_addNote_9 ⟨(Nat.le_of_ble_eq_true rfl), (Nat.le_of_ble_eq_true rfl)⟩) hP hD hS hA [1, 2, 3, 4, 5, 6, 7, 8, 9, 10, 11, 12, 13, 14, 15, 16, 17, 18, 19, 20, 21] [0] rfl rfl (by decide) (by decide) (fun u1 H locs hP hD hS => ?_)
  have hP : va_P g.1 vwCl [(q5, .inl (g.2 1, 1, .inr (.inl f109))), (q27, .inl (g.2 3, 10, .inr (.inr (.inr (.inr f28))))), (q32, .inr (8, [.ref q51, .ref q52, .ref q53, .ref q54, .int 0, .int 4, .int 0])), (q51, .inr (5, [.ref q57, .ref q58])), (q57, .inl (g.2 0, 384, .inl f63)), (q58, .inl (g.2 0, 40, .inl f64)), (q41, .inr (9, [.ref q75, .ref q76, .int 1, .int 0])), (q52, .inr (9, [.ref q69, .ref q70, .int 1, .int 0])), (q75, .inl (g.2 0, 10, .inl f63)), (q69, .inl (g.2 0, 10, .inl f63)), (q76, .inl (g.2 0, 10, .inl f77)), (q70, .inl (g.2 0, 10, .inl f77)), (q42, .inl (g.2 0, 60, .inl f63)), (q53, .inl (g.2 0, 60, .inl f63)), (q43, .inl (g.2 0, 20, .inl f78)), (q54, .inl (g.2 0, 20, .inl f78)), (q61, .inl (g.2 0, 384, .inl (upd (upd (upd f63 97 x2) 98 x3) 99 x4))), (q30, .inr (8, [.ref q40, .ref q41, .ref q42, .ref q43, .int 0, .int 4, .int 0])), (q23, .inr (10, [.ref q27, .int 1, .int 1])), (q1, .inr (11, [.ref q23, w13, w14, w15, w16, w17, w18, w19, .int 0, .int 0, w22])), (q62, .inl (g.2 0, 40, .inl (upd (upd (upd (upd (upd (upd (upd (upd (upd (upd (upd (upd f64 10 1) 1 0) 4 1) 9 1) 11 x3) 12 1) 14 1) 19 1) 24 1) 29 1) 34 1) 39 1))), (q40, .inr (5, [.ref q61, .ref q62]))] H := hP
  have hD : va_D A [(q5, .inl (g.2 1, 1, .inr (.inl f109))), (q27, .inl (g.2 3, 10, .inr (.inr (.inr (.inr f28))))), (q32, .inr (8, [.ref q51, .ref q52, .ref q53, .ref q54, .int 0, .int 4, .int 0])), (q51, .inr (5, [.ref q57, .ref q58])), (q57, .inl (g.2 0, 384, .inl f63)), (q58, .inl (g.2 0, 40, .inl f64)), (q41, .inr (9, [.ref q75, .ref q76, .int 1, .int 0])), (q52, .inr (9, [.ref q69, .ref q70, .int 1, .int 0])), (q75, .inl (g.2 0, 10, .inl f63)), (q69, .inl (g.2 0, 10, .inl f63)), (q76, .inl (g.2 0, 10, .inl f77)), (q70, .inl (g.2 0, 10, .inl f77)), (q42, .inl (g.2 0, 60, .inl f63)), (q53, .inl (g.2 0, 60, .inl f63)), (q43, .inl (g.2 0, 20, .inl f78)), (q54, .inl (g.2 0, 20, .inl f78)), (q61, .inl (g.2 0, 384, .inl (upd (upd (upd f63 97 x2) 98 x3) 99 x4))), (q30, .inr (8, [.ref q40, .ref q41, .ref q42, .ref q43, .int 0, .int 4, .int 0])), (q23, .inr (10, [.ref q27, .int 1, .int 1])), (q1, .inr (11, [.ref q23, w13, w14, w15, w16, w17, w18, w19, .int 0, .int 0, w22])), (q62, .inl (g.2 0, 40, .inl (upd (upd (upd (upd (upd (upd (upd (upd (upd (upd (upd (upd f64 10 1) 1 0) 4 1) 9 1) 11 x3) 12 1) 14 1) 19 1) 24 1) 29 1) 34 1) 39 1))), (q40, .inr (5, [.ref q61, .ref q62]))] := hD
  refine lv_i2l (v := 1) hx hb dL_addNote_12 (by decide) ?_
  refine x_last (ws' := [(q5, .inl (g.2 1, 1, .inr (.inl (vp_updL f109 0 1)))), (q27, .inl (g.2 3, 10, .inr (.inr (.inr (.inr f28))))), (q32, .inr (8, [.ref q51, .ref q52, .ref q53, .ref q54, .int 0, .int 4, .int 0])), (q51, .inr (5, [.ref q57, .ref q58])), (q57, .inl (g.2 0, 384, .inl f63)), (q58, .inl (g.2 0, 40, .inl f64)), (q41, .inr (9, [.ref q75, .ref q76, .int 1, .int 0])), (q52, .inr (9, [.ref q69, .ref q70, .int 1, .int 0])), (q75, .inl (g.2 0, 10, .inl f63)), (q69, .inl (g.2 0, 10, .inl f63)), (q76, .inl (g.2 0, 10, .inl f77)), (q70, .inl (g.2 0, 10, .inl f77)), (q42, .inl (g.2 0, 60, .inl f63)), (q53, .inl (g.2 0, 60, .inl f63)), (q43, .inl (g.2 0, 20, .inl f78)), (q54, .inl (g.2 0, 20, .inl f78)), (q61, .inl (g.2 0, 384, .inl (upd (upd (upd f63 97 x2) 98 x3) 99 x4))), (q30, .inr (8, [.ref q40, .ref q41, .ref q42, .ref q43, .int 0, .int 4, .int 0])), (q23, .inr (10, [.ref q27, .int 1, .int 1])), (q1, .inr (11, [.ref q23, w13, w14, w15, w16, w17, w18, w19, .int 0, .int 0, w22])), (q62, .inl (g.2 0, 40, .inl (upd (upd (upd (upd (upd (upd (upd (upd (upd (upd (upd (upd f64 10 1) 1 0) 4 1) 9 1) 11 x3) 12 1) 14 1) 19 1) 24 1) 29 1) 34 1) 39 1))), (q40, .inr (5, [.ref q61, .ref q62]))]) hx hb hE hP hD hS 0 rfl 0 (x_in (by decide)) (by decide) dL_addNote_13 rfl (fun H locs hP hD hS => ?_)
  refine lv_goto (tgt := 29) hx hb dL_addNote_14 (by decide) ?_
  refine lv_iconst (v := 0) hx hb dL_addNote_29 (by decide) ?_
  exact x_zret hx hb hr rfl rfl hlocks hP hD hS hAe hsz (Nat.le_of_ble_eq_true rfl) (Nat.le_of_ble_eq_true rfl) (fun _ => 0) [0] (by decide) rfl dL_addNote_30

set_option maxHeartbeats 4000000 in
set_option maxRecDepth 100000 in
theorem c277_X10_isRanged (l : Launch) (g : gG) (x1 x2 x3 : Int32) (h4 : (0 : Int32) ≤ x1) (h5 : x1 ≤ 99) (h6 : (1 : Int32) ≤ x2) (h7 : x2 ≤ 16) (h8 : (1 : Int32) ≤ x3) (h9 : x3 ≤ 9) (sz : Nat) : Met l yX10_isRanged [Cond.code yX10_isRanged cX10_isRanged 5 (some .boolean)] ({ frames := 1, cells := 0, slots := 0, locals := 22 } : Room) (va_Pc [.int 2, .int 0, .int x1, .int x2, .int x3] (PX g sz [])) (QI g [] sz 1 (fun _ => [])) 0 0 (va_A [] sz) := by
  refine ofN (by decide) (Nat.le_of_ble_eq_true rfl) rfl ?_
  intro p e s m args below meth c A ls hAe hsz hx hb hml hr hlocks hin hown hE hP hD hA hS hl
  have hown : s.vm.findClass RX10 = some m.cls := hown
  refine lv_iload_n hx hb dX10_isRanged_0 rfl (lv_at hl 1 rfl) ?_
  refine lv_if_ne (tgt := 43) hx hb dX10_isRanged_1 (by decide) (fun h => absurd h (by decide)) (fun _ => ?_)
  refine lv_iload_n hx hb dX10_isRanged_4 rfl (lv_at hl 2 rfl) ?_
  refine lv_iconst (v := 0) hx hb dX10_isRanged_5 (by decide) ?_
  refine lv_bipush (v := 99) hx hb dX10_isRanged_6 (by decide) ?_
  refine g0_i (rS (rest := []) hx hb hml hown hE hP hD (c103_X10_in l g x1 h4 h5 s.heap.size) (kS_X10_in hE (e1431 hE) rfl rfl ⟨(Nat.le_of_ble_eq_true rfl), (Nat.le_of_ble_eq_true rfl)⟩) [] rfl (by decide) rfl hl.1 rfl (lv_room (Nat.le_of_ble_eq_true rfl)) dX10_isRanged_8 ⟨(Nat.le_of_ble_eq_true rfl), (Nat.le_of_ble_eq_true rfl)⟩) hP hD hS hA (fun u9 H locs hP hS => ?_)
  refine lv_if_eq (tgt := 39) hx hb dX10_isRanged_11 (by decide) (fun h => absurd h (by decide)) (fun _ => ?_)
  refine lv_iload_n hx hb dX10_isRanged_14 rfl (lv_at hl 3 rfl) ?_
  refine lv_iconst (v := 1) hx hb dX10_isRanged_15 (by decide) ?_
  refine lv_bipush (v := 16) hx hb dX10_isRanged_16 (by decide) ?_
  refine g0_i (rS (rest := []) hx hb hml hown hE hP hD (c112_X10_in l g x2 h6 h7 H.size) (kS_X10_in hE (e1431 hE) rfl rfl ⟨(Nat.le_of_ble_eq_true rfl), (Nat.le_of_ble_eq_true rfl)⟩) [] rfl (by decide) rfl hl.1 rfl (lv_room (Nat.le_of_ble_eq_true rfl)) dX10_isRanged_18 ⟨(Nat.le_of_ble_eq_true rfl), (Nat.le_of_ble_eq_true rfl)⟩) hP hD hS hA (fun u9 H locs hP hS => ?_)
  refine lv_if_eq (tgt := 39) hx hb dX10_isRanged_21 (by decide) (fun h => absurd h (by decide)) (fun _ => ?_)
  refine lv_iload hx hb dX10_isRanged_24 (lv_at hl 4 rfl) ?_
  refine lv_iconst (v := 1) hx hb dX10_isRanged_26 (by decide) ?_
  refine lv_bipush (v := 9) hx hb dX10_isRanged_27 (by decide) ?_
  refine g0_i (rS (rest := []) hx hb hml hown hE hP hD (c196_X10_in l g x3 h8 h9 H.size) (kS_X10_in hE (e1431 hE) rfl rfl ⟨(Nat.le_of_ble_eq_true rfl), (Nat.le_of_ble_eq_true rfl)⟩) [] rfl (by decide) rfl hl.1 rfl (lv_room (Nat.le_of_ble_eq_true rfl)) dX10_isRanged_29 ⟨(Nat.le_of_ble_eq_true rfl), (Nat.le_of_ble_eq_true rfl)⟩) hP hD hS hA (fun u9 H locs hP hS => ?_)
  refine lv_if_eq (tgt := 39) hx hb dX10_isRanged_32 (by decide) (fun h => absurd h (by decide)) (fun _ => ?_)
  refine lv_iconst (v := 1) hx hb dX10_isRanged_35 (by decide) ?_
  refine lv_goto (tgt := 84) hx hb dX10_isRanged_36 (by decide) ?_
  exact x_zret hx hb hr rfl rfl hlocks hP hD hS hAe hsz (Nat.le_of_ble_eq_true rfl) (Nat.le_of_ble_eq_true rfl) (fun _ => 0) [] (by decide) rfl dX10_isRanged_84

set_option maxHeartbeats 4000000 in
set_option maxRecDepth 100000 in
theorem c278_X10_many (l : Launch) (g : gG) (q1 q39 : Nat) (w3 w4 w5 w6 w7 w8 w9 w10 w11 w12 w13 w14 w15 w16 w17 w18 w19 w20 w21 w22 w23 w24 w25 w26 w27 w28 w29 w30 w31 w32 w33 w34 w35 w36 w37 w38 : Value) (f40 : Nat → Int32) (hf41 : f40 98 = 1) (sz : Nat) : Met l yX10_many [Cond.code yX10_many cX10_many 2 (some .int)] ({ frames := 1, cells := 0, slots := 0, locals := 20 } : Room) (va_Pc [.ref q1, .int 2] (PX g sz [(q39, .inl (g.2 0, 497, .inl f40)), (q1, .inr (12, [.ref q39, w3, w4, w5, w6, w7, w8, w9, w10, w11, w12, w13, w14, w15, w16, w17, w18, w19, w20, w21, w22, w23, w24, w25, w26, w27, w28, w29, w30, w31, w32, w33, w34, w35, w36, w37, w38]))])) (QI g [(q39, .inl (g.2 0, 497, .inl f40)), (q1, .inr (12, [.ref q39, w3, w4, w5, w6, w7, w8, w9, w10, w11, w12, w13, w14, w15, w16, w17, w18, w19, w20, w21, w22, w23, w24, w25, w26, w27, w28, w29, w30, w31, w32, w33, w34, w35, w36, w37, w38]))] sz 1 (fun _ => [(q39, .inl (g.2 0, 497, .inl f40)), (q1, .inr (12, [.ref q39, w3, w4, w5, w6, w7, w8, w9, w10, w11, w12, w13, w14, w15, w16, w17, w18, w19, w20, w21, w22, w23, w24, w25, w26, w27, w28, w29, w30, w31, w32, w33, w34, w35, w36, w37, w38]))])) 0 0 (va_A [(q39, .inl (g.2 0, 497, .inl f40)), (q1, .inr (12, [.ref q39, w3, w4, w5, w6, w7, w8, w9, w10, w11, w12, w13, w14, w15, w16, w17, w18, w19, w20, w21, w22, w23, w24, w25, w26, w27, w28, w29, w30, w31, w32, w33, w34, w35, w36, w37, w38]))] sz) := by
  refine ofN (by decide) (Nat.le_of_ble_eq_true rfl) rfl ?_
  intro p e s m args below meth c A ls hAe hsz hx hb hml hr hlocks hin hown hE hP hD hA hS hl
  have hown : s.vm.findClass RX10 = some m.cls := hown
  refine lv_aload_n hx hb dX10_many_0 rfl (lv_at hl 0 rfl) ?_
  refine gf_RX10_9 hx hb hown hE hP 1 rfl rfl dX10_many_1 ?_
  refine lv_iload_n hx hb dX10_many_4 rfl (lv_at hl 1 rfl) ?_
  refine g0_i (rS (rest := [.ref q39]) hx hb hml hown hE hP hD (c205_X10_itemsAt l g s.heap.size) (kS_X10_itemsAt hE (e1445 hE) rfl rfl ⟨(Nat.le_of_ble_eq_true rfl), (Nat.le_of_ble_eq_true rfl)⟩) [] rfl (by decide) rfl hl.1 rfl (lv_room (Nat.le_of_ble_eq_true rfl)) dX10_many_5 ⟨(Nat.le_of_ble_eq_true rfl), (Nat.le_of_ble_eq_true rfl)⟩) hP hD hS hA (fun u9 H locs hP hS => ?_)
  refine x_iald (v := 1) hx hb hE hP 0 rfl 98 (x_in (by decide)) (by decide) hf41 dX10_many_8 ?_
  exact x_zret hx hb hr rfl rfl hlocks hP hD hS hAe hsz (Nat.le_of_ble_eq_true rfl) (Nat.le_of_ble_eq_true rfl) (fun _ => 0) [0, 1] (by decide) rfl dX10_many_9

set_option maxHeartbeats 4000000 in
set_option maxRecDepth 100000 in
theorem c279_X10_of (l : Launch) (g : gG) (q1 q39 : Nat) (w3 w4 w5 w6 w7 w8 w9 w10 w11 w12 w13 w14 w15 w16 w17 w18 w19 w20 w21 w22 w23 w24 w25 w26 w27 w28 w29 w30 w31 w32 w33 w34 w35 w36 w37 w38 : Value) (f40 : Nat → Int32) (hf41 : f40 99 = 0) (sz : Nat) : Met l yX10_of [Cond.code yX10_of cX10_of 4 (some .int)] ({ frames := 1, cells := 0, slots := 0, locals := 20 } : Room) (va_Pc [.ref q1, .int 2, .int 0, .int 0] (PX g sz [(q39, .inl (g.2 0, 497, .inl f40)), (q1, .inr (12, [.ref q39, w3, w4, w5, w6, w7, w8, w9, w10, w11, w12, w13, w14, w15, w16, w17, w18, w19, w20, w21, w22, w23, w24, w25, w26, w27, w28, w29, w30, w31, w32, w33, w34, w35, w36, w37, w38]))])) (QI g [(q39, .inl (g.2 0, 497, .inl f40)), (q1, .inr (12, [.ref q39, w3, w4, w5, w6, w7, w8, w9, w10, w11, w12, w13, w14, w15, w16, w17, w18, w19, w20, w21, w22, w23, w24, w25, w26, w27, w28, w29, w30, w31, w32, w33, w34, w35, w36, w37, w38]))] sz 0 (fun _ => [(q39, .inl (g.2 0, 497, .inl f40)), (q1, .inr (12, [.ref q39, w3, w4, w5, w6, w7, w8, w9, w10, w11, w12, w13, w14, w15, w16, w17, w18, w19, w20, w21, w22, w23, w24, w25, w26, w27, w28, w29, w30, w31, w32, w33, w34, w35, w36, w37, w38]))])) 0 0 (va_A [(q39, .inl (g.2 0, 497, .inl f40)), (q1, .inr (12, [.ref q39, w3, w4, w5, w6, w7, w8, w9, w10, w11, w12, w13, w14, w15, w16, w17, w18, w19, w20, w21, w22, w23, w24, w25, w26, w27, w28, w29, w30, w31, w32, w33, w34, w35, w36, w37, w38]))] sz) := by
  refine ofN (by decide) (Nat.le_of_ble_eq_true rfl) rfl ?_
  intro p e s m args below meth c A ls hAe hsz hx hb hml hr hlocks hin hown hE hP hD hA hS hl
  have hown : s.vm.findClass RX10 = some m.cls := hown
  refine lv_aload_n hx hb dX10_of_0 rfl (lv_at hl 0 rfl) ?_
  refine gf_RX10_9 hx hb hown hE hP 1 rfl rfl dX10_of_1 ?_
  refine lv_iload_n hx hb dX10_of_4 rfl (lv_at hl 1 rfl) ?_
  refine g0_i (rS (rest := [.ref q39]) hx hb hml hown hE hP hD (c205_X10_itemsAt l g s.heap.size) (kS_X10_itemsAt hE (e1445 hE) rfl rfl ⟨(Nat.le_of_ble_eq_true rfl), (Nat.le_of_ble_eq_true rfl)⟩) [] rfl (by decide) rfl hl.1 rfl (lv_room (Nat.le_of_ble_eq_true rfl)) dX10_of_5 ⟨(Nat.le_of_ble_eq_true rfl), (Nat.le_of_ble_eq_true rfl)⟩) hP hD hS hA (fun u9 H locs hP hS => ?_)
  refine lv_iconst (v := 1) hx hb dX10_of_8 (by decide) ?_
  refine x_iadd (v := 99) hx hb dX10_of_9 (by decide) ?_
  refine lv_iconst (v := 4) hx hb dX10_of_10 (by decide) ?_
  refine lv_iload_n hx hb dX10_of_11 rfl (lv_at hl 2 rfl) ?_
  refine x_imul (v := 0) hx hb dX10_of_12 (by decide) ?_
  refine x_iadd (v := 99) hx hb dX10_of_13 (by decide) ?_
  refine lv_iload_n hx hb dX10_of_14 rfl (lv_at hl 3 rfl) ?_
  refine x_iadd (v := 99) hx hb dX10_of_15 (by decide) ?_
  refine x_iald (v := 0) hx hb hE hP 0 rfl 99 (x_in (by decide)) (by decide) hf41 dX10_of_16 ?_
  exact x_zret hx hb hr rfl rfl hlocks hP hD hS hAe hsz (Nat.le_of_ble_eq_true rfl) (Nat.le_of_ble_eq_true rfl) (fun _ => 0) [0, 1] (by decide) rfl dX10_of_17

set_option maxHeartbeats 4000000 in
set_option maxRecDepth 100000 in
theorem c280_X10_of (l : Launch) (g : gG) (q1 q39 : Nat) (x42 : Int32) (w3 w4 w5 w6 w7 w8 w9 w10 w11 w12 w13 w14 w15 w16 w17 w18 w19 w20 w21 w22 w23 w24 w25 w26 w27 w28 w29 w30 w31 w32 w33 w34 w35 w36 w37 w38 : Value) (f40 : Nat → Int32) (hf41 : f40 101 = x42) (sz : Nat) : Met l yX10_of [Cond.code yX10_of cX10_of 4 (some .int)] ({ frames := 1, cells := 0, slots := 0, locals := 20 } : Room) (va_Pc [.ref q1, .int 2, .int 0, .int 2] (PX g sz [(q39, .inl (g.2 0, 497, .inl f40)), (q1, .inr (12, [.ref q39, w3, w4, w5, w6, w7, w8, w9, w10, w11, w12, w13, w14, w15, w16, w17, w18, w19, w20, w21, w22, w23, w24, w25, w26, w27, w28, w29, w30, w31, w32, w33, w34, w35, w36, w37, w38]))])) (QI g [(q39, .inl (g.2 0, 497, .inl f40)), (q1, .inr (12, [.ref q39, w3, w4, w5, w6, w7, w8, w9, w10, w11, w12, w13, w14, w15, w16, w17, w18, w19, w20, w21, w22, w23, w24, w25, w26, w27, w28, w29, w30, w31, w32, w33, w34, w35, w36, w37, w38]))] sz x42 (fun _ => [(q39, .inl (g.2 0, 497, .inl f40)), (q1, .inr (12, [.ref q39, w3, w4, w5, w6, w7, w8, w9, w10, w11, w12, w13, w14, w15, w16, w17, w18, w19, w20, w21, w22, w23, w24, w25, w26, w27, w28, w29, w30, w31, w32, w33, w34, w35, w36, w37, w38]))])) 0 0 (va_A [(q39, .inl (g.2 0, 497, .inl f40)), (q1, .inr (12, [.ref q39, w3, w4, w5, w6, w7, w8, w9, w10, w11, w12, w13, w14, w15, w16, w17, w18, w19, w20, w21, w22, w23, w24, w25, w26, w27, w28, w29, w30, w31, w32, w33, w34, w35, w36, w37, w38]))] sz) := by
  refine ofN (by decide) (Nat.le_of_ble_eq_true rfl) rfl ?_
  intro p e s m args below meth c A ls hAe hsz hx hb hml hr hlocks hin hown hE hP hD hA hS hl
  have hown : s.vm.findClass RX10 = some m.cls := hown
  refine lv_aload_n hx hb dX10_of_0 rfl (lv_at hl 0 rfl) ?_
  refine gf_RX10_9 hx hb hown hE hP 1 rfl rfl dX10_of_1 ?_
  refine lv_iload_n hx hb dX10_of_4 rfl (lv_at hl 1 rfl) ?_
  refine g0_i (rS (rest := [.ref q39]) hx hb hml hown hE hP hD (c205_X10_itemsAt l g s.heap.size) (kS_X10_itemsAt hE (e1445 hE) rfl rfl ⟨(Nat.le_of_ble_eq_true rfl), (Nat.le_of_ble_eq_true rfl)⟩) [] rfl (by decide) rfl hl.1 rfl (lv_room (Nat.le_of_ble_eq_true rfl)) dX10_of_5 ⟨(Nat.le_of_ble_eq_true rfl), (Nat.le_of_ble_eq_true rfl)⟩) hP hD hS hA (fun u9 H locs hP hS => ?_)
  refine lv_iconst (v := 1) hx hb dX10_of_8 (by decide) ?_
  refine x_iadd (v := 99) hx hb dX10_of_9 (by decide) ?_
  refine lv_iconst (v := 4) hx hb dX10_of_10 (by decide) ?_
  refine lv_iload_n hx hb dX10_of_11 rfl (lv_at hl 2 rfl) ?_
  refine x_imul (v := 0) hx hb dX10_of_12 (by decide) ?_
  refine x_iadd (v := 99) hx hb dX10_of_13 (by decide) ?_
  refine lv_iload_n hx hb dX10_of_14 rfl (lv_at hl 3 rfl) ?_
  refine x_iadd (v := 101) hx hb dX10_of_15 (by decide) ?_
  refine x_iald (v := x42) hx hb hE hP 0 rfl 101 (x_in (by decide)) (by decide) hf41 dX10_of_16 ?_
  exact x_zret hx hb hr rfl rfl hlocks hP hD hS hAe hsz (Nat.le_of_ble_eq_true rfl) (Nat.le_of_ble_eq_true rfl) (fun _ => 0) [0, 1] (by decide) rfl dX10_of_17

set_option maxHeartbeats 4000000 in
set_option maxRecDepth 100000 in
theorem c281_X10_layLengths (l : Launch) (g : gG) (q1 q39 q42 q45 : Nat) (x51 : Int32) (w3 w4 w5 w6 w7 w8 w11 w12 w13 w14 w15 w16 w17 w18 w19 w20 w21 w22 w23 w24 w25 w26 w27 w28 w29 w30 w31 w32 w33 w34 w35 w36 w37 w38 : Value) (f40 : Nat → Int32) (f43 : Nat → Int32) (hf41 : f40 0 = 0) (hf44 : f43 0 = 0) (hf46 : f40 49 = 0) (hf47 : f43 1 = 0) (hf48 : f40 98 = 1) (hf49 : f40 99 = 0) (hf50 : f40 101 = x51) (hf53 : f40 147 = 0) (hf54 : f43 3 = 0) (hf55 : f40 196 = 0) (hf56 : f43 4 = 0) (hf57 : f40 245 = 0) (hf58 : f43 5 = 0) (hf59 : f40 294 = 0) (hf60 : f43 6 = 0) (hf61 : f40 343 = 0) (hf62 : f43 7 = 0) (h52 : x51 ≤ 200000) (sz : Nat) : Met l yX10_layLengths [Cond.code yX10_layLengths cX10_layLengths 6 none] ({ frames := 2, cells := 0, slots := 0, locals := 43 } : Room) (va_Pc [.ref q1] (PX g sz [(q45, .inl (g.2 0, 8, .inl f43)), (q42, .inl (g.2 0, 8, .inl f43)), (q39, .inl (g.2 0, 497, .inl f40)), (q1, .inr (12, [.ref q39, w3, w4, w5, w6, w7, w8, .ref q42, .ref q45, w11, w12, w13, w14, w15, w16, w17, w18, w19, w20, w21, w22, w23, w24, w25, w26, w27, w28, w29, w30, w31, w32, w33, w34, w35, w36, w37, w38]))])) (QV g [(q45, .inl (g.2 0, 8, .inl f43)), (q42, .inl (g.2 0, 8, .inl f43)), (q39, .inl (g.2 0, 497, .inl f40)), (q1, .inr (12, [.ref q39, w3, w4, w5, w6, w7, w8, .ref q42, .ref q45, w11, w12, w13, w14, w15, w16, w17, w18, w19, w20, w21, w22, w23, w24, w25, w26, w27, w28, w29, w30, w31, w32, w33, w34, w35, w36, w37, w38]))] sz (fun _ => [(q45, .inl (g.2 0, 8, .inl (upd f43 2 1))), (q42, .inl (g.2 0, 8, .inl (upd f43 2 x51))), (q39, .inl (g.2 0, 497, .inl f40)), (q1, .inr (12, [.ref q39, w3, w4, w5, w6, w7, w8, .ref q42, .ref q45, w11, w12, w13, w14, w15, w16, w17, w18, w19, w20, w21, w22, w23, w24, w25, w26, w27, w28, w29, w30, w31, w32, w33, w34, w35, w36, w37, w38]))])) 0 0 (va_A [(q45, .inl (g.2 0, 8, .inl f43)), (q42, .inl (g.2 0, 8, .inl f43)), (q39, .inl (g.2 0, 497, .inl f40)), (q1, .inr (12, [.ref q39, w3, w4, w5, w6, w7, w8, .ref q42, .ref q45, w11, w12, w13, w14, w15, w16, w17, w18, w19, w20, w21, w22, w23, w24, w25, w26, w27, w28, w29, w30, w31, w32, w33, w34, w35, w36, w37, w38]))] sz) := by
  refine ofN (by decide) (Nat.le_of_ble_eq_true rfl) rfl ?_
  intro p e s m args below meth c A ls hAe hsz hx hb hml hr hlocks hin hown hE hP hD hA hS hl
  have hown : s.vm.findClass RX10 = some m.cls := hown
  refine lv_iconst (v := 0) hx hb dX10_layLengths_0 (by decide) ?_
  refine lv_istore_n (lv' := [(1, .int 0), (0, .ref q1)]) hx hb dX10_layLengths_1 rfl hl (by decide) rfl (fun ls hl => ?_)
  refine lv_iload_n hx hb dX10_layLengths_2 rfl (lv_at hl 0 rfl) ?_
  refine lv_bipush (v := 8) hx hb dX10_layLengths_3 (by decide) ?_
  refine lv_icmp_ge (tgt := 164) hx hb dX10_layLengths_5 (by decide) (fun h => absurd h (by decide)) (fun _ => ?_)
  refine lv_iconst (v := 0) hx hb dX10_layLengths_8 (by decide) ?_
  refine lv_istore_n (lv' := [(2, .int 0), (1, .int 0), (0, .ref q1)]) hx hb dX10_layLengths_9 rfl hl (by decide) rfl (fun ls hl => ?_)
  refine lv_iconst (v := 0) hx hb dX10_layLengths_10 (by decide) ?_
  refine lv_istore_n (lv' := [(3, .int 0), (2, .int 0), (1, .int 0), (0, .ref q1)]) hx hb dX10_layLengths_11 rfl hl (by decide) rfl (fun ls hl => ?_)
  refine lv_iconst (v := 0) hx hb dX10_layLengths_12 (by decide) ?_
  refine lv_istore (lv' := [(4, .int 0), (3, .int 0), (2, .int 0), (1, .int 0), (0, .ref q1)]) hx hb dX10_layLengths_13 hl (by decide) rfl (fun ls hl => ?_)
  refine lv_iload hx hb dX10_layLengths_15 (lv_at hl 0 rfl) ?_
  refine lv_aload_n hx hb dX10_layLengths_17 rfl (lv_at hl 4 rfl) ?_
  refine lv_iload_n hx hb dX10_layLengths_18 rfl (lv_at hl 3 rfl) ?_
  refine g_i (wr := [(q45, .inl (g.2 0, 8, .inl f43)), (q42, .inl (g.2 0, 8, .inl f43))]) (rV (rest := [.int 0]) hx hb hml hown hE hP hD 3 rfl rfl (c247_X10_many l g q1 q39 w3 w4 w5 w6 w7 w8 (.ref q42) (.ref q45) w11 w12 w13 w14 w15 w16 w17 w18 w19 w20 w21 w22 w23 w24 w25 w26 w27 w28 w29 w30 w31 w32 w33 w34 w35 w36 w37 w38 f40 (hf41) s.heap.size) (kV_X10_many hE (e1456 hE) rfl rfl ⟨(Nat.le_of_ble_eq_true rfl), (Nat.le_of_ble_eq_true rfl)⟩) [2, 3] rfl (by decide) rfl hl.1 rfl (lv_room (Nat.le_of_ble_eq_true rfl)) dX10_layLengths_19 ⟨(Nat.le_of_ble_eq_true rfl), (Nat.le_of_ble_eq_true rfl)⟩) hP hD hS hA [2, 3] [0, 1] rfl rfl (by decide) (by decide) (fun u1 H locs hP hD hS => ?_)
  have hP : va_P g.1 vwCl [(q45, .inl (g.2 0, 8, .inl f43)), (q42, .inl (g.2 0, 8, .inl f43)), (q39, .inl (g.2 0, 497, .inl f40)), (q1, .inr (12, [.ref q39, w3, w4, w5, w6, w7, w8, .ref q42, .ref q45, w11, w12, w13, w14, w15, w16, w17, w18, w19, w20, w21, w22, w23, w24, w25, w26, w27, w28, w29, w30, w31, w32, w33, w34, w35, w36, w37, w38]))] H := hP
  have hD : va_D A [(q45, .inl (g.2 0, 8, .inl f43)), (q42, .inl (g.2 0, 8, .inl f43)), (q39, .inl (g.2 0, 497, .inl f40)), (q1, .inr (12, [.ref q39, w3, w4, w5, w6, w7, w8, .ref q42, .ref q45, w11, w12, w13, w14, w15, w16, w17, w18, w19, w20, w21, w22, w23, w24, w25, w26, w27, w28, w29, w30, w31, w32, w33, w34, w35, w36, w37, w38]))] := hD
  refine lv_icmp_ge (tgt := 134) hx hb dX10_layLengths_22 (by decide) (fun _ => ?_) (fun h => absurd (by decide) h)
  refine lv_aload_n hx hb dX10_layLengths_134 rfl (lv_at hl 4 rfl) ?_
  refine gf_RX10_22 hx hb hown hE hP 3 rfl rfl dX10_layLengths_135 ?_
  refine lv_iload_n hx hb dX10_layLengths_138 rfl (lv_at hl 3 rfl) ?_
  refine lv_iload_n hx hb dX10_layLengths_139 rfl (lv_at hl 2 rfl) ?_
  refine lv_ldc (v := 200000) hx hb hown (e1464 hE) dX10_layLengths_140 ?_
  refine x_mmin (v := 0) hx hb (by rw [hml]; exact hl.1.symm) hown (e1465 hE) (e362 hE) (e9 hE) (e363 hE) (Nat.le_of_ble_eq_true rfl) (Nat.le_of_ble_eq_true rfl) (Nat.le_of_ble_eq_true rfl) (Nat.le_of_ble_eq_true rfl) (by decide) dX10_layLengths_142 ?_
  refine x_iast_same hx hb hE hP hD hS 1 rfl 0 (x_in (by decide)) (by decide) hf44 dX10_layLengths_145 (fun H locs hP hD hS => ?_)
  refine lv_aload_n hx hb dX10_layLengths_146 rfl (lv_at hl 4 rfl) ?_
  refine gf_RX10_25 hx hb hown hE hP 3 rfl rfl dX10_layLengths_147 ?_
  refine lv_iload_n hx hb dX10_layLengths_150 rfl (lv_at hl 3 rfl) ?_
  refine lv_iload_n hx hb dX10_layLengths_151 rfl (lv_at hl 1 rfl) ?_
  refine lv_ldc (v := 200000) hx hb hown (e1464 hE) dX10_layLengths_152 ?_
  refine x_mmin (v := 0) hx hb (by rw [hml]; exact hl.1.symm) hown (e1465 hE) (e362 hE) (e9 hE) (e363 hE) (Nat.le_of_ble_eq_true rfl) (Nat.le_of_ble_eq_true rfl) (Nat.le_of_ble_eq_true rfl) (Nat.le_of_ble_eq_true rfl) (by decide) dX10_layLengths_154 ?_
  refine x_iast_same hx hb hE hP hD hS 0 rfl 0 (x_in (by decide)) (by decide) hf44 dX10_layLengths_157 (fun H locs hP hD hS => ?_)
  refine lv_iinc (v := 1) (lv' := [(1, .int 1), (4, .int 0), (3, .int 0), (2, .int 0), (0, .ref q1)]) hx hb dX10_layLengths_158 hl (k := 3) rfl (by decide) (by decide) rfl (fun ls hl => ?_)
  refine lv_goto (tgt := 2) hx hb dX10_layLengths_161 (by decide) ?_
  refine lv_iload_n hx hb dX10_layLengths_2 rfl (lv_at hl 0 rfl) ?_
  refine lv_bipush (v := 8) hx hb dX10_layLengths_3 (by decide) ?_
  refine lv_icmp_ge (tgt := 164) hx hb dX10_layLengths_5 (by decide) (fun h => absurd h (by decide)) (fun _ => ?_)
  refine lv_iconst (v := 0) hx hb dX10_layLengths_8 (by decide) ?_
  refine lv_istore_n (lv' := [(2, .int 0), (1, .int 1), (4, .int 0), (3, .int 0), (0, .ref q1)]) hx hb dX10_layLengths_9 rfl hl (by decide) rfl (fun ls hl => ?_)
  refine lv_iconst (v := 0) hx hb dX10_layLengths_10 (by decide) ?_
  refine lv_istore_n (lv' := [(3, .int 0), (2, .int 0), (1, .int 1), (4, .int 0), (0, .ref q1)]) hx hb dX10_layLengths_11 rfl hl (by decide) rfl (fun ls hl => ?_)
  refine lv_iconst (v := 0) hx hb dX10_layLengths_12 (by decide) ?_
  refine lv_istore (lv' := [(4, .int 0), (3, .int 0), (2, .int 0), (1, .int 1), (0, .ref q1)]) hx hb dX10_layLengths_13 hl (by decide) rfl (fun ls hl => ?_)
  refine lv_iload hx hb dX10_layLengths_15 (lv_at hl 0 rfl) ?_
  refine lv_aload_n hx hb dX10_layLengths_17 rfl (lv_at hl 4 rfl) ?_
  refine lv_iload_n hx hb dX10_layLengths_18 rfl (lv_at hl 3 rfl) ?_
  refine g_i (wr := [(q45, .inl (g.2 0, 8, .inl f43)), (q42, .inl (g.2 0, 8, .inl f43))]) (rV (rest := [.int 0]) hx hb hml hown hE hP hD 3 rfl rfl (c204_X10_many l g q1 q39 w3 w4 w5 w6 w7 w8 (.ref q42) (.ref q45) w11 w12 w13 w14 w15 w16 w17 w18 w19 w20 w21 w22 w23 w24 w25 w26 w27 w28 w29 w30 w31 w32 w33 w34 w35 w36 w37 w38 f40 (hf46) H.size) (kV_X10_many hE (e1456 hE) rfl rfl ⟨(Nat.le_of_ble_eq_true rfl), (Nat.le_of_ble_eq_true rfl)⟩) [2, 3] rfl (by decide) rfl hl.1 rfl (lv_room (Nat.le_of_ble_eq_true rfl)) dX10_layLengths_19 ⟨(Nat.le_of_ble_eq_true rfl), (Nat.le_of_ble_eq_true rfl)⟩) hP hD hS hA [2, 3] [0, 1] rfl rfl (by decide) (by decide) (fun u2 H locs hP hD hS => ?_)
  have hP : va_P g.1 vwCl [(q45, .inl (g.2 0, 8, .inl f43)), (q42, .inl (g.2 0, 8, .inl f43)), (q39, .inl (g.2 0, 497, .inl f40)), (q1, .inr (12, [.ref q39, w3, w4, w5, w6, w7, w8, .ref q42, .ref q45, w11, w12, w13, w14, w15, w16, w17, w18, w19, w20, w21, w22, w23, w24, w25, w26, w27, w28, w29, w30, w31, w32, w33, w34, w35, w36, w37, w38]))] H := hP
  have hD : va_D A [(q45, .inl (g.2 0, 8, .inl f43)), (q42, .inl (g.2 0, 8, .inl f43)), (q39, .inl (g.2 0, 497, .inl f40)), (q1, .inr (12, [.ref q39, w3, w4, w5, w6, w7, w8, .ref q42, .ref q45, w11, w12, w13, w14, w15, w16, w17, w18, w19, w20, w21, w22, w23, w24, w25, w26, w27, w28, w29, w30, w31, w32, w33, w34, w35, w36, w37, w38]))] := hD
  refine lv_icmp_ge (tgt := 134) hx hb dX10_layLengths_22 (by decide) (fun _ => ?_) (fun h => absurd (by decide) h)
  refine lv_aload_n hx hb dX10_layLengths_134 rfl (lv_at hl 4 rfl) ?_
  refine gf_RX10_22 hx hb hown hE hP 3 rfl rfl dX10_layLengths_135 ?_
  refine lv_iload_n hx hb dX10_layLengths_138 rfl (lv_at hl 3 rfl) ?_
  refine lv_iload_n hx hb dX10_layLengths_139 rfl (lv_at hl 2 rfl) ?_
  refine lv_ldc (v := 200000) hx hb hown (e1464 hE) dX10_layLengths_140 ?_
  refine x_mmin (v := 0) hx hb (by rw [hml]; exact hl.1.symm) hown (e1465 hE) (e362 hE) (e9 hE) (e363 hE) (Nat.le_of_ble_eq_true rfl) (Nat.le_of_ble_eq_true rfl) (Nat.le_of_ble_eq_true rfl) (Nat.le_of_ble_eq_true rfl) (by decide) dX10_layLengths_142 ?_
  refine x_iast_same hx hb hE hP hD hS 1 rfl 1 (x_in (by decide)) (by decide) hf47 dX10_layLengths_145 (fun H locs hP hD hS => ?_)
  refine lv_aload_n hx hb dX10_layLengths_146 rfl (lv_at hl 4 rfl) ?_
  refine gf_RX10_25 hx hb hown hE hP 3 rfl rfl dX10_layLengths_147 ?_
  refine lv_iload_n hx hb dX10_layLengths_150 rfl (lv_at hl 3 rfl) ?_
  refine lv_iload_n hx hb dX10_layLengths_151 rfl (lv_at hl 1 rfl) ?_
  refine lv_ldc (v := 200000) hx hb hown (e1464 hE) dX10_layLengths_152 ?_
  refine x_mmin (v := 0) hx hb (by rw [hml]; exact hl.1.symm) hown (e1465 hE) (e362 hE) (e9 hE) (e363 hE) (Nat.le_of_ble_eq_true rfl) (Nat.le_of_ble_eq_true rfl) (Nat.le_of_ble_eq_true rfl) (Nat.le_of_ble_eq_true rfl) (by decide) dX10_layLengths_154 ?_
  refine x_iast_same hx hb hE hP hD hS 0 rfl 1 (x_in (by decide)) (by decide) hf47 dX10_layLengths_157 (fun H locs hP hD hS => ?_)
  refine lv_iinc (v := 2) (lv' := [(1, .int 2), (4, .int 0), (3, .int 0), (2, .int 0), (0, .ref q1)]) hx hb dX10_layLengths_158 hl (k := 3) rfl (by decide) (by decide) rfl (fun ls hl => ?_)
  refine lv_goto (tgt := 2) hx hb dX10_layLengths_161 (by decide) ?_
  refine lv_iload_n hx hb dX10_layLengths_2 rfl (lv_at hl 0 rfl) ?_
  refine lv_bipush (v := 8) hx hb dX10_layLengths_3 (by decide) ?_
  refine lv_icmp_ge (tgt := 164) hx hb dX10_layLengths_5 (by decide) (fun h => absurd h (by decide)) (fun _ => ?_)
  refine lv_iconst (v := 0) hx hb dX10_layLengths_8 (by decide) ?_
  refine lv_istore_n (lv' := [(2, .int 0), (1, .int 2), (4, .int 0), (3, .int 0), (0, .ref q1)]) hx hb dX10_layLengths_9 rfl hl (by decide) rfl (fun ls hl => ?_)
  refine lv_iconst (v := 0) hx hb dX10_layLengths_10 (by decide) ?_
  refine lv_istore_n (lv' := [(3, .int 0), (2, .int 0), (1, .int 2), (4, .int 0), (0, .ref q1)]) hx hb dX10_layLengths_11 rfl hl (by decide) rfl (fun ls hl => ?_)
  refine lv_iconst (v := 0) hx hb dX10_layLengths_12 (by decide) ?_
  refine lv_istore (lv' := [(4, .int 0), (3, .int 0), (2, .int 0), (1, .int 2), (0, .ref q1)]) hx hb dX10_layLengths_13 hl (by decide) rfl (fun ls hl => ?_)
  refine lv_iload hx hb dX10_layLengths_15 (lv_at hl 0 rfl) ?_
  refine lv_aload_n hx hb dX10_layLengths_17 rfl (lv_at hl 4 rfl) ?_
  refine lv_iload_n hx hb dX10_layLengths_18 rfl (lv_at hl 3 rfl) ?_
  refine g_i (wr := [(q45, .inl (g.2 0, 8, .inl f43)), (q42, .inl (g.2 0, 8, .inl f43))]) (rV (rest := [.int 0]) hx hb hml hown hE hP hD 3 rfl rfl (c278_X10_many l g q1 q39 w3 w4 w5 w6 w7 w8 (.ref q42) (.ref q45) w11 w12 w13 w14 w15 w16 w17 w18 w19 w20 w21 w22 w23 w24 w25 w26 w27 w28 w29 w30 w31 w32 w33 w34 w35 w36 w37 w38 f40 (hf48) H.size) (kV_X10_many hE (e1456 hE) rfl rfl ⟨(Nat.le_of_ble_eq_true rfl), (Nat.le_of_ble_eq_true rfl)⟩) [2, 3] rfl (by decide) rfl hl.1 rfl (lv_room (Nat.le_of_ble_eq_true rfl)) dX10_layLengths_19 ⟨(Nat.le_of_ble_eq_true rfl), (Nat.le_of_ble_eq_true rfl)⟩) hP hD hS hA [2, 3] [0, 1] rfl rfl (by decide) (by decide) (fun u3 H locs hP hD hS => ?_)
  have hP : va_P g.1 vwCl [(q45, .inl (g.2 0, 8, .inl f43)), (q42, .inl (g.2 0, 8, .inl f43)), (q39, .inl (g.2 0, 497, .inl f40)), (q1, .inr (12, [.ref q39, w3, w4, w5, w6, w7, w8, .ref q42, .ref q45, w11, w12, w13, w14, w15, w16, w17, w18, w19, w20, w21, w22, w23, w24, w25, w26, w27, w28, w29, w30, w31, w32, w33, w34, w35, w36, w37, w38]))] H := hP
  have hD : va_D A [(q45, .inl (g.2 0, 8, .inl f43)), (q42, .inl (g.2 0, 8, .inl f43)), (q39, .inl (g.2 0, 497, .inl f40)), (q1, .inr (12, [.ref q39, w3, w4, w5, w6, w7, w8, .ref q42, .ref q45, w11, w12, w13, w14, w15, w16, w17, w18, w19, w20, w21, w22, w23, w24, w25, w26, w27, w28, w29, w30, w31, w32, w33, w34, w35, w36, w37, w38]))] := hD
  refine lv_icmp_ge (tgt := 134) hx hb dX10_layLengths_22 (by decide) (fun h => absurd h (by decide)) (fun _ => ?_)
  refine lv_aload_n hx hb dX10_layLengths_25 rfl (lv_at hl 4 rfl) ?_
  refine lv_iload_n hx hb dX10_layLengths_26 rfl (lv_at hl 3 rfl) ?_
  refine lv_iload hx hb dX10_layLengths_27 (lv_at hl 0 rfl) ?_
  refine lv_iconst (v := 0) hx hb dX10_layLengths_29 (by decide) ?_
  refine g_i (wr := [(q45, .inl (g.2 0, 8, .inl f43)), (q42, .inl (g.2 0, 8, .inl f43))]) (rV (rest := []) hx hb hml hown hE hP hD 3 rfl rfl (c279_X10_of l g q1 q39 w3 w4 w5 w6 w7 w8 (.ref q42) (.ref q45) w11 w12 w13 w14 w15 w16 w17 w18 w19 w20 w21 w22 w23 w24 w25 w26 w27 w28 w29 w30 w31 w32 w33 w34 w35 w36 w37 w38 f40 (hf49) H.size) (kV_X10_of hE (e1460 hE) rfl rfl ⟨(Nat.le_of_ble_eq_true rfl), (Nat.le_of_ble_eq_true rfl)⟩) [2, 3] rfl (by decide) rfl hl.1 rfl (lv_room (Nat.le_of_ble_eq_true rfl)) dX10_layLengths_30 ⟨(Nat.le_of_ble_eq_true rfl), (Nat.le_of_ble_eq_true rfl)⟩) hP hD hS hA [2, 3] [0, 1] rfl rfl (by decide) (by decide) (fun u4 H locs hP hD hS => ?_)
  have hP : va_P g.1 vwCl [(q45, .inl (g.2 0, 8, .inl f43)), (q42, .inl (g.2 0, 8, .inl f43)), (q39, .inl (g.2 0, 497, .inl f40)), (q1, .inr (12, [.ref q39, w3, w4, w5, w6, w7, w8, .ref q42, .ref q45, w11, w12, w13, w14, w15, w16, w17, w18, w19, w20, w21, w22, w23, w24, w25, w26, w27, w28, w29, w30, w31, w32, w33, w34, w35, w36, w37, w38]))] H := hP
  have hD : va_D A [(q45, .inl (g.2 0, 8, .inl f43)), (q42, .inl (g.2 0, 8, .inl f43)), (q39, .inl (g.2 0, 497, .inl f40)), (q1, .inr (12, [.ref q39, w3, w4, w5, w6, w7, w8, .ref q42, .ref q45, w11, w12, w13, w14, w15, w16, w17, w18, w19, w20, w21, w22, w23, w24, w25, w26, w27, w28, w29, w30, w31, w32, w33, w34, w35, w36, w37, w38]))] := hD
  refine lv_iconst (v := 2) hx hb dX10_layLengths_33 (by decide) ?_
  refine lv_icmp_ne (tgt := 41) hx hb dX10_layLengths_34 (by decide) (fun _ => ?_) (fun h => absurd h (by decide))
  refine lv_iconst (v := 0) hx hb dX10_layLengths_41 (by decide) ?_
  refine lv_istore (lv' := [(5, .int 0), (4, .int 0), (3, .int 0), (2, .int 0), (1, .int 2), (0, .ref q1)]) hx hb dX10_layLengths_42 hl (by decide) rfl (fun ls hl => ?_)
  refine lv_iload_n hx hb dX10_layLengths_44 rfl (lv_at hl 3 rfl) ?_
  refine lv_iload hx hb dX10_layLengths_45 (lv_at hl 0 rfl) ?_
  refine lv_if_eq (tgt := 75) hx hb dX10_layLengths_47 (by decide) (fun _ => ?_) (fun h => absurd (by decide) h)
  refine lv_aload_n hx hb dX10_layLengths_75 rfl (lv_at hl 5 rfl) ?_
  refine lv_iload_n hx hb dX10_layLengths_76 rfl (lv_at hl 4 rfl) ?_
  refine lv_iload hx hb dX10_layLengths_77 (lv_at hl 1 rfl) ?_
  refine lv_iconst (v := 2) hx hb dX10_layLengths_79 (by decide) ?_
  refine g_i (wr := [(q45, .inl (g.2 0, 8, .inl f43)), (q42, .inl (g.2 0, 8, .inl f43))]) (rV (rest := [.int 0]) hx hb hml hown hE hP hD 3 rfl rfl (c280_X10_of l g q1 q39 x51 w3 w4 w5 w6 w7 w8 (.ref q42) (.ref q45) w11 w12 w13 w14 w15 w16 w17 w18 w19 w20 w21 w22 w23 w24 w25 w26 w27 w28 w29 w30 w31 w32 w33 w34 w35 w36 w37 w38 f40 (hf50) H.size) (kV_X10_of hE (e1460 hE) rfl rfl ⟨(Nat.le_of_ble_eq_true rfl), (Nat.le_of_ble_eq_true rfl)⟩) [2, 3] rfl (by decide) rfl hl.1 rfl (lv_room (Nat.le_of_ble_eq_true rfl)) dX10_layLengths_80 ⟨(Nat.le_of_ble_eq_true rfl), (Nat.le_of_ble_eq_true rfl)⟩) hP hD hS hA [2, 3] [0, 1] rfl rfl (by decide) (by decide) (fun u5 H locs hP hD hS => ?_)
  have hP : va_P g.1 vwCl [(q45, .inl (g.2 0, 8, .inl f43)), (q42, .inl (g.2 0, 8, .inl f43)), (q39, .inl (g.2 0, 497, .inl f40)), (q1, .inr (12, [.ref q39, w3, w4, w5, w6, w7, w8, .ref q42, .ref q45, w11, w12, w13, w14, w15, w16, w17, w18, w19, w20, w21, w22, w23, w24, w25, w26, w27, w28, w29, w30, w31, w32, w33, w34, w35, w36, w37, w38]))] H := hP
  have hD : va_D A [(q45, .inl (g.2 0, 8, .inl f43)), (q42, .inl (g.2 0, 8, .inl f43)), (q39, .inl (g.2 0, 497, .inl f40)), (q1, .inr (12, [.ref q39, w3, w4, w5, w6, w7, w8, .ref q42, .ref q45, w11, w12, w13, w14, w15, w16, w17, w18, w19, w20, w21, w22, w23, w24, w25, w26, w27, w28, w29, w30, w31, w32, w33, w34, w35, w36, w37, w38]))] := hD
  refine x_iadd (v := x51) hx hb dX10_layLengths_83 (Int32.zero_add _) ?_
  refine lv_istore_n (lv' := [(2, .int x51), (5, .int 0), (4, .int 0), (3, .int 0), (1, .int 2), (0, .ref q1)]) hx hb dX10_layLengths_84 rfl hl (by decide) rfl (fun ls hl => ?_)
  refine lv_iload_n hx hb dX10_layLengths_85 rfl (lv_at hl 3 rfl) ?_
  refine lv_iload hx hb dX10_layLengths_86 (lv_at hl 1 rfl) ?_
  refine lv_if_eq (tgt := 116) hx hb dX10_layLengths_88 (by decide) (fun _ => ?_) (fun h => absurd (by decide) h)
  refine lv_iconst (v := 1) hx hb dX10_layLengths_116 (by decide) ?_
  refine lv_aload_n hx hb dX10_layLengths_117 rfl (lv_at hl 5 rfl) ?_
  refine lv_iload_n hx hb dX10_layLengths_118 rfl (lv_at hl 4 rfl) ?_
  refine lv_iload hx hb dX10_layLengths_119 (lv_at hl 2 rfl) ?_
  refine lv_iconst (v := 0) hx hb dX10_layLengths_121 (by decide) ?_
  refine g_i (wr := [(q45, .inl (g.2 0, 8, .inl f43)), (q42, .inl (g.2 0, 8, .inl f43))]) (rV (rest := [.int 1, .int 0]) hx hb hml hown hE hP hD 3 rfl rfl (c279_X10_of l g q1 q39 w3 w4 w5 w6 w7 w8 (.ref q42) (.ref q45) w11 w12 w13 w14 w15 w16 w17 w18 w19 w20 w21 w22 w23 w24 w25 w26 w27 w28 w29 w30 w31 w32 w33 w34 w35 w36 w37 w38 f40 (hf49) H.size) (kV_X10_of hE (e1460 hE) rfl rfl ⟨(Nat.le_of_ble_eq_true rfl), (Nat.le_of_ble_eq_true rfl)⟩) [2, 3] rfl (by decide) rfl hl.1 rfl (lv_room (Nat.le_of_ble_eq_true rfl)) dX10_layLengths_122 ⟨(Nat.le_of_ble_eq_true rfl), (Nat.le_of_ble_eq_true rfl)⟩) hP hD hS hA [2, 3] [0, 1] rfl rfl (by decide) (by decide) (fun u6 H locs hP hD hS => ?_)
  have hP : va_P g.1 vwCl [(q45, .inl (g.2 0, 8, .inl f43)), (q42, .inl (g.2 0, 8, .inl f43)), (q39, .inl (g.2 0, 497, .inl f40)), (q1, .inr (12, [.ref q39, w3, w4, w5, w6, w7, w8, .ref q42, .ref q45, w11, w12, w13, w14, w15, w16, w17, w18, w19, w20, w21, w22, w23, w24, w25, w26, w27, w28, w29, w30, w31, w32, w33, w34, w35, w36, w37, w38]))] H := hP
  have hD : va_D A [(q45, .inl (g.2 0, 8, .inl f43)), (q42, .inl (g.2 0, 8, .inl f43)), (q39, .inl (g.2 0, 497, .inl f40)), (q1, .inr (12, [.ref q39, w3, w4, w5, w6, w7, w8, .ref q42, .ref q45, w11, w12, w13, w14, w15, w16, w17, w18, w19, w20, w21, w22, w23, w24, w25, w26, w27, w28, w29, w30, w31, w32, w33, w34, w35, w36, w37, w38]))] := hD
  refine x_isub (v := 1) hx hb dX10_layLengths_125 (by decide) ?_
  refine x_iadd (v := 1) hx hb dX10_layLengths_126 (by decide) ?_
  refine lv_istore_n (lv' := [(3, .int 1), (2, .int x51), (5, .int 0), (4, .int 0), (1, .int 2), (0, .ref q1)]) hx hb dX10_layLengths_127 rfl hl (by decide) rfl (fun ls hl => ?_)
  refine lv_iinc (v := 1) (lv' := [(4, .int 1), (3, .int 1), (2, .int x51), (5, .int 0), (1, .int 2), (0, .ref q1)]) hx hb dX10_layLengths_128 hl (k := 3) rfl (by decide) (by decide) rfl (fun ls hl => ?_)
  refine lv_goto (tgt := 15) hx hb dX10_layLengths_131 (by decide) ?_
  refine lv_iload hx hb dX10_layLengths_15 (lv_at hl 0 rfl) ?_
  refine lv_aload_n hx hb dX10_layLengths_17 rfl (lv_at hl 5 rfl) ?_
  refine lv_iload_n hx hb dX10_layLengths_18 rfl (lv_at hl 4 rfl) ?_
  refine g_i (wr := [(q45, .inl (g.2 0, 8, .inl f43)), (q42, .inl (g.2 0, 8, .inl f43))]) (rV (rest := [.int 1]) hx hb hml hown hE hP hD 3 rfl rfl (c278_X10_many l g q1 q39 w3 w4 w5 w6 w7 w8 (.ref q42) (.ref q45) w11 w12 w13 w14 w15 w16 w17 w18 w19 w20 w21 w22 w23 w24 w25 w26 w27 w28 w29 w30 w31 w32 w33 w34 w35 w36 w37 w38 f40 (hf48) H.size) (kV_X10_many hE (e1456 hE) rfl rfl ⟨(Nat.le_of_ble_eq_true rfl), (Nat.le_of_ble_eq_true rfl)⟩) [2, 3] rfl (by decide) rfl hl.1 rfl (lv_room (Nat.le_of_ble_eq_true rfl)) dX10_layLengths_19 ⟨(Nat.le_of_ble_eq_true rfl), (Nat.le_of_ble_eq_true rfl)⟩) hP hD hS hA [2, 3] [0, 1] rfl rfl (by decide) (by decide) (fun u7 H locs hP hD hS => ?_)
  have hP : va_P g.1 vwCl [(q45, .inl (g.2 0, 8, .inl f43)), (q42, .inl (g.2 0, 8, .inl f43)), (q39, .inl (g.2 0, 497, .inl f40)), (q1, .inr (12, [.ref q39, w3, w4, w5, w6, w7, w8, .ref q42, .ref q45, w11, w12, w13, w14, w15, w16, w17, w18, w19, w20, w21, w22, w23, w24, w25, w26, w27, w28, w29, w30, w31, w32, w33, w34, w35, w36, w37, w38]))] H := hP
  have hD : va_D A [(q45, .inl (g.2 0, 8, .inl f43)), (q42, .inl (g.2 0, 8, .inl f43)), (q39, .inl (g.2 0, 497, .inl f40)), (q1, .inr (12, [.ref q39, w3, w4, w5, w6, w7, w8, .ref q42, .ref q45, w11, w12, w13, w14, w15, w16, w17, w18, w19, w20, w21, w22, w23, w24, w25, w26, w27, w28, w29, w30, w31, w32, w33, w34, w35, w36, w37, w38]))] := hD
  refine lv_icmp_ge (tgt := 134) hx hb dX10_layLengths_22 (by decide) (fun _ => ?_) (fun h => absurd (by decide) h)
  refine lv_aload_n hx hb dX10_layLengths_134 rfl (lv_at hl 5 rfl) ?_
  refine gf_RX10_22 hx hb hown hE hP 3 rfl rfl dX10_layLengths_135 ?_
  refine lv_iload_n hx hb dX10_layLengths_138 rfl (lv_at hl 4 rfl) ?_
  refine lv_iload_n hx hb dX10_layLengths_139 rfl (lv_at hl 2 rfl) ?_
  refine lv_ldc (v := 200000) hx hb hown (e1464 hE) dX10_layLengths_140 ?_
  refine x_mmin (v := x51) hx hb (by rw [hml]; exact hl.1.symm) hown (e1465 hE) (e362 hE) (e9 hE) (e363 hE) (Nat.le_of_ble_eq_true rfl) (Nat.le_of_ble_eq_true rfl) (Nat.le_of_ble_eq_true rfl) (Nat.le_of_ble_eq_true rfl) (if_neg (i_nlt h52)) dX10_layLengths_142 ?_
  refine x_iast (ws' := [(q45, .inl (g.2 0, 8, .inl f43)), (q42, .inl (g.2 0, 8, .inl (upd f43 2 x51))), (q39, .inl (g.2 0, 497, .inl f40)), (q1, .inr (12, [.ref q39, w3, w4, w5, w6, w7, w8, .ref q42, .ref q45, w11, w12, w13, w14, w15, w16, w17, w18, w19, w20, w21, w22, w23, w24, w25, w26, w27, w28, w29, w30, w31, w32, w33, w34, w35, w36, w37, w38]))]) hx hb hE hP hD hS 1 rfl 2 (x_in (by decide)) (by decide) dX10_layLengths_145 rfl (fun H locs hP hD hS => ?_)
  refine lv_aload_n hx hb dX10_layLengths_146 rfl (lv_at hl 5 rfl) ?_
  refine gf_RX10_25 hx hb hown hE hP 3 rfl rfl dX10_layLengths_147 ?_
  refine lv_iload_n hx hb dX10_layLengths_150 rfl (lv_at hl 4 rfl) ?_
  refine lv_iload_n hx hb dX10_layLengths_151 rfl (lv_at hl 1 rfl) ?_
  refine lv_ldc (v := 200000) hx hb hown (e1464 hE) dX10_layLengths_152 ?_
  refine x_mmin (v := 1) hx hb (by rw [hml]; exact hl.1.symm) hown (e1465 hE) (e362 hE) (e9 hE) (e363 hE) (Nat.le_of_ble_eq_true rfl) (Nat.le_of_ble_eq_true rfl) (Nat.le_of_ble_eq_true rfl) (Nat.le_of_ble_eq_true rfl) (by decide) dX10_layLengths_154 ?_
  refine x_iast (ws' := [(q45, .inl (g.2 0, 8, .inl (upd f43 2 1))), (q42, .inl (g.2 0, 8, .inl (upd f43 2 x51))), (q39, .inl (g.2 0, 497, .inl f40)), (q1, .inr (12, [.ref q39, w3, w4, w5, w6, w7, w8, .ref q42, .ref q45, w11, w12, w13, w14, w15, w16, w17, w18, w19, w20, w21, w22, w23, w24, w25, w26, w27, w28, w29, w30, w31, w32, w33, w34, w35, w36, w37, w38]))]) hx hb hE hP hD hS 0 rfl 2 (x_in (by decide)) (by decide) dX10_layLengths_157 rfl (fun H locs hP hD hS => ?_)
  refine lv_iinc (v := 3) (lv' := [(1, .int 3), (4, .int 1), (3, .int 1), (2, .int x51), (5, .int 0), (0, .ref q1)]) hx hb dX10_layLengths_158 hl (k := 4) rfl (by decide) (by decide) rfl (fun ls hl => ?_)
  refine lv_goto (tgt := 2) hx hb dX10_layLengths_161 (by decide) ?_
  refine lv_iload_n hx hb dX10_layLengths_2 rfl (lv_at hl 0 rfl) ?_
  refine lv_bipush (v := 8) hx hb dX10_layLengths_3 (by decide) ?_
  refine lv_icmp_ge (tgt := 164) hx hb dX10_layLengths_5 (by decide) (fun h => absurd h (by decide)) (fun _ => ?_)
  refine lv_iconst (v := 0) hx hb dX10_layLengths_8 (by decide) ?_
  refine lv_istore_n (lv' := [(2, .int 0), (1, .int 3), (4, .int 1), (3, .int 1), (5, .int 0), (0, .ref q1)]) hx hb dX10_layLengths_9 rfl hl (by decide) rfl (fun ls hl => ?_)
  refine lv_iconst (v := 0) hx hb dX10_layLengths_10 (by decide) ?_
  refine lv_istore_n (lv' := [(3, .int 0), (2, .int 0), (1, .int 3), (4, .int 1), (5, .int 0), (0, .ref q1)]) hx hb dX10_layLengths_11 rfl hl (by decide) rfl (fun ls hl => ?_)
  refine lv_iconst (v := 0) hx hb dX10_layLengths_12 (by decide) ?_
  refine lv_istore (lv' := [(4, .int 0), (3, .int 0), (2, .int 0), (1, .int 3), (5, .int 0), (0, .ref q1)]) hx hb dX10_layLengths_13 hl (by decide) rfl (fun ls hl => ?_)
  refine lv_iload hx hb dX10_layLengths_15 (lv_at hl 0 rfl) ?_
  refine lv_aload_n hx hb dX10_layLengths_17 rfl (lv_at hl 5 rfl) ?_
  refine lv_iload_n hx hb dX10_layLengths_18 rfl (lv_at hl 3 rfl) ?_
  refine g_i (wr := [(q45, .inl (g.2 0, 8, .inl (upd f43 2 1))), (q42, .inl (g.2 0, 8, .inl (upd f43 2 x51)))]) (rV (rest := [.int 0]) hx hb hml hown hE hP hD 3 rfl rfl (c208_X10_many l g q1 q39 w3 w4 w5 w6 w7 w8 (.ref q42) (.ref q45) w11 w12 w13 w14 w15 w16 w17 w18 w19 w20 w21 w22 w23 w24 w25 w26 w27 w28 w29 w30 w31 w32 w33 w34 w35 w36 w37 w38 f40 (hf53) H.size) (kV_X10_many hE (e1456 hE) rfl rfl ⟨(Nat.le_of_ble_eq_true rfl), (Nat.le_of_ble_eq_true rfl)⟩) [2, 3] rfl (by decide) rfl hl.1 rfl (lv_room (Nat.le_of_ble_eq_true rfl)) dX10_layLengths_19 ⟨(Nat.le_of_ble_eq_true rfl), (Nat.le_of_ble_eq_true rfl)⟩) hP hD hS hA [2, 3] [0, 1] rfl rfl (by decide) (by decide) (fun u8 H locs hP hD hS => ?_)
  have hP : va_P g.1 vwCl [(q45, .inl (g.2 0, 8, .inl (upd f43 2 1))), (q42, .inl (g.2 0, 8, .inl (upd f43 2 x51))), (q39, .inl (g.2 0, 497, .inl f40)), (q1, .inr (12, [.ref q39, w3, w4, w5, w6, w7, w8, .ref q42, .ref q45, w11, w12, w13, w14, w15, w16, w17, w18, w19, w20, w21, w22, w23, w24, w25, w26, w27, w28, w29, w30, w31, w32, w33, w34, w35, w36, w37, w38]))] H := hP
  have hD : va_D A [(q45, .inl (g.2 0, 8, .inl (upd f43 2 1))), (q42, .inl (g.2 0, 8, .inl (upd f43 2 x51))), (q39, .inl (g.2 0, 497, .inl f40)), (q1, .inr (12, [.ref q39, w3, w4, w5, w6, w7, w8, .ref q42, .ref q45, w11, w12, w13, w14, w15, w16, w17, w18, w19, w20, w21, w22, w23, w24, w25, w26, w27, w28, w29, w30, w31, w32, w33, w34, w35, w36, w37, w38]))] := hD
  refine lv_icmp_ge (tgt := 134) hx hb dX10_layLengths_22 (by decide) (fun _ => ?_) (fun h => absurd (by decide) h)
  refine lv_aload_n hx hb dX10_layLengths_134 rfl (lv_at hl 5 rfl) ?_
  refine gf_RX10_22 hx hb hown hE hP 3 rfl rfl dX10_layLengths_135 ?_
  refine lv_iload_n hx hb dX10_layLengths_138 rfl (lv_at hl 3 rfl) ?_
  refine lv_iload_n hx hb dX10_layLengths_139 rfl (lv_at hl 2 rfl) ?_
  refine lv_ldc (v := 200000) hx hb hown (e1464 hE) dX10_layLengths_140 ?_
  refine x_mmin (v := 0) hx hb (by rw [hml]; exact hl.1.symm) hown (e1465 hE) (e362 hE) (e9 hE) (e363 hE) (Nat.le_of_ble_eq_true rfl) (Nat.le_of_ble_eq_true rfl) (Nat.le_of_ble_eq_true rfl) (Nat.le_of_ble_eq_true rfl) (by decide) dX10_layLengths_142 ?_
  refine x_iast_same hx hb hE hP hD hS 1 rfl 3 (x_in (by decide)) (by decide) ((pk_un (by decide)).trans hf54) dX10_layLengths_145 (fun H locs hP hD hS => ?_)
  refine lv_aload_n hx hb dX10_layLengths_146 rfl (lv_at hl 5 rfl) ?_
  refine gf_RX10_25 hx hb hown hE hP 3 rfl rfl dX10_layLengths_147 ?_
  refine lv_iload_n hx hb dX10_layLengths_150 rfl (lv_at hl 3 rfl) ?_
  refine lv_iload_n hx hb dX10_layLengths_151 rfl (lv_at hl 1 rfl) ?_
  refine lv_ldc (v := 200000) hx hb hown (e1464 hE) dX10_layLengths_152 ?_
  refine x_mmin (v := 0) hx hb (by rw [hml]; exact hl.1.symm) hown (e1465 hE) (e362 hE) (e9 hE) (e363 hE) (Nat.le_of_ble_eq_true rfl) (Nat.le_of_ble_eq_true rfl) (Nat.le_of_ble_eq_true rfl) (Nat.le_of_ble_eq_true rfl) (by decide) dX10_layLengths_154 ?_
  refine x_iast_same hx hb hE hP hD hS 0 rfl 3 (x_in (by decide)) (by decide) ((pk_un (by decide)).trans hf54) dX10_layLengths_157 (fun H locs hP hD hS => ?_)
  refine lv_iinc (v := 4) (lv' := [(1, .int 4), (4, .int 0), (3, .int 0), (2, .int 0), (5, .int 0), (0, .ref q1)]) hx hb dX10_layLengths_158 hl (k := 3) rfl (by decide) (by decide) rfl (fun ls hl => ?_)
  refine lv_goto (tgt := 2) hx hb dX10_layLengths_161 (by decide) ?_
  refine lv_iload_n hx hb dX10_layLengths_2 rfl (lv_at hl 0 rfl) ?_
  refine lv_bipush (v := 8) hx hb dX10_layLengths_3 (by decide) ?_
  refine lv_icmp_ge (tgt := 164) hx hb dX10_layLengths_5 (by decide) (fun h => absurd h (by decide)) (fun _ => ?_)
  refine lv_iconst (v := 0) hx hb dX10_layLengths_8 (by decide) ?_
  refine lv_istore_n (lv' := [(2, .int 0), (1, .int 4), (4, .int 0), (3, .int 0), (5, .int 0), (0, .ref q1)]) hx hb dX10_layLengths_9 rfl hl (by decide) rfl (fun ls hl => ?_)
  refine lv_iconst (v := 0) hx hb dX10_layLengths_10 (by decide) ?_
  refine lv_istore_n (lv' := [(3, .int 0), (2, .int 0), (1, .int 4), (4, .int 0), (5, .int 0), (0, .ref q1)]) hx hb dX10_layLengths_11 rfl hl (by decide) rfl (fun ls hl => ?_)
  refine lv_iconst (v := 0) hx hb dX10_layLengths_12 (by decide) ?_
  refine lv_istore (lv' := [(4, .int 0), (3, .int 0), (2, .int 0), (1, .int 4), (5, .int 0), (0, .ref q1)]) hx hb dX10_layLengths_13 hl (by decide) rfl (fun ls hl => ?_)
  refine lv_iload hx hb dX10_layLengths_15 (lv_at hl 0 rfl) ?_
  refine lv_aload_n hx hb dX10_layLengths_17 rfl (lv_at hl 5 rfl) ?_
  refine lv_iload_n hx hb dX10_layLengths_18 rfl (lv_at hl 3 rfl) ?_
  refine g_i (wr := [(q45, .inl (g.2 0, 8, .inl (upd f43 2 1))), (q42, .inl (g.2 0, 8, .inl (upd f43 2 x51)))]) (rV (rest := [.int 0]) hx hb hml hown hE hP hD 3 rfl rfl (c210_X10_many l g q1 q39 w3 w4 w5 w6 w7 w8 (.ref q42) (.ref q45) w11 w12 w13 w14 w15 w16 w17 w18 w19 w20 w21 w22 w23 w24 w25 w26 w27 w28 w29 w30 w31 w32 w33 w34 w35 w36 w37 w38 f40 (hf55) H.size) (kV_X10_many hE (e1456 hE) rfl rfl ⟨(Nat.le_of_ble_eq_true rfl), (Nat.le_of_ble_eq_true rfl)⟩) [2, 3] rfl (by decide) rfl hl.1 rfl (lv_room (Nat.le_of_ble_eq_true rfl)) dX10_layLengths_19 ⟨(Nat.le_of_ble_eq_true rfl), (Nat.le_of_ble_eq_true rfl)⟩) hP hD hS hA [2, 3] [0, 1] rfl rfl (by decide) (by decide) (fun u9 H locs hP hD hS => ?_)
  have hP : va_P g.1 vwCl [(q45, .inl (g.2 0, 8, .inl (upd f43 2 1))), (q42, .inl (g.2 0, 8, .inl (upd f43 2 x51))), (q39, .inl (g.2 0, 497, .inl f40)), (q1, .inr (12, [.ref q39, w3, w4, w5, w6, w7, w8, .ref q42, .ref q45, w11, w12, w13, w14, w15, w16, w17, w18, w19, w20, w21, w22, w23, w24, w25, w26, w27, w28, w29, w30, w31, w32, w33, w34, w35, w36, w37, w38]))] H := hP
  have hD : va_D A [(q45, .inl (g.2 0, 8, .inl (upd f43 2 1))), (q42, .inl (g.2 0, 8, .inl (upd f43 2 x51))), (q39, .inl (g.2 0, 497, .inl f40)), (q1, .inr (12, [.ref q39, w3, w4, w5, w6, w7, w8, .ref q42, .ref q45, w11, w12, w13, w14, w15, w16, w17, w18, w19, w20, w21, w22, w23, w24, w25, w26, w27, w28, w29, w30, w31, w32, w33, w34, w35, w36, w37, w38]))] := hD
  refine lv_icmp_ge (tgt := 134) hx hb dX10_layLengths_22 (by decide) (fun _ => ?_) (fun h => absurd (by decide) h)
  refine lv_aload_n hx hb dX10_layLengths_134 rfl (lv_at hl 5 rfl) ?_
  refine gf_RX10_22 hx hb hown hE hP 3 rfl rfl dX10_layLengths_135 ?_
  refine lv_iload_n hx hb dX10_layLengths_138 rfl (lv_at hl 3 rfl) ?_
  refine lv_iload_n hx hb dX10_layLengths_139 rfl (lv_at hl 2 rfl) ?_
  refine lv_ldc (v := 200000) hx hb hown (e1464 hE) dX10_layLengths_140 ?_
  refine x_mmin (v := 0) hx hb (by rw [hml]; exact hl.1.symm) hown (e1465 hE) (e362 hE) (e9 hE) (e363 hE) (Nat.le_of_ble_eq_true rfl) (Nat.le_of_ble_eq_true rfl) (Nat.le_of_ble_eq_true rfl) (Nat.le_of_ble_eq_true rfl) (by decide) dX10_layLengths_142 ?_
  refine x_iast_same hx hb hE hP hD hS 1 rfl 4 (x_in (by decide)) (by decide) ((pk_un (by decide)).trans hf56) dX10_layLengths_145 (fun H locs hP hD hS => ?_)
  refine lv_aload_n hx hb dX10_layLengths_146 rfl (lv_at hl 5 rfl) ?_
  refine gf_RX10_25 hx hb hown hE hP 3 rfl rfl dX10_layLengths_147 ?_
  refine lv_iload_n hx hb dX10_layLengths_150 rfl (lv_at hl 3 rfl) ?_
  refine lv_iload_n hx hb dX10_layLengths_151 rfl (lv_at hl 1 rfl) ?_
  refine lv_ldc (v := 200000) hx hb hown (e1464 hE) dX10_layLengths_152 ?_
  refine x_mmin (v := 0) hx hb (by rw [hml]; exact hl.1.symm) hown (e1465 hE) (e362 hE) (e9 hE) (e363 hE) (Nat.le_of_ble_eq_true rfl) (Nat.le_of_ble_eq_true rfl) (Nat.le_of_ble_eq_true rfl) (Nat.le_of_ble_eq_true rfl) (by decide) dX10_layLengths_154 ?_
  refine x_iast_same hx hb hE hP hD hS 0 rfl 4 (x_in (by decide)) (by decide) ((pk_un (by decide)).trans hf56) dX10_layLengths_157 (fun H locs hP hD hS => ?_)
  refine lv_iinc (v := 5) (lv' := [(1, .int 5), (4, .int 0), (3, .int 0), (2, .int 0), (5, .int 0), (0, .ref q1)]) hx hb dX10_layLengths_158 hl (k := 3) rfl (by decide) (by decide) rfl (fun ls hl => ?_)
  refine lv_goto (tgt := 2) hx hb dX10_layLengths_161 (by decide) ?_
  refine lv_iload_n hx hb dX10_layLengths_2 rfl (lv_at hl 0 rfl) ?_
  refine lv_bipush (v := 8) hx hb dX10_layLengths_3 (by decide) ?_
  refine lv_icmp_ge (tgt := 164) hx hb dX10_layLengths_5 (by decide) (fun h => absurd h (by decide)) (fun _ => ?_)
  refine lv_iconst (v := 0) hx hb dX10_layLengths_8 (by decide) ?_
  refine lv_istore_n (lv' := [(2, .int 0), (1, .int 5), (4, .int 0), (3, .int 0), (5, .int 0), (0, .ref q1)]) hx hb dX10_layLengths_9 rfl hl (by decide) rfl (fun ls hl => ?_)
  refine lv_iconst (v := 0) hx hb dX10_layLengths_10 (by decide) ?_
  refine lv_istore_n (lv' := [(3, .int 0), (2, .int 0), (1, .int 5), (4, .int 0), (5, .int 0), (0, .ref q1)]) hx hb dX10_layLengths_11 rfl hl (by decide) rfl (fun ls hl => ?_)
  refine lv_iconst (v := 0) hx hb dX10_layLengths_12 (by decide) ?_
  refine lv_istore (lv' := [(4, .int 0), (3, .int 0), (2, .int 0), (1, .int 5), (5, .int 0), (0, .ref q1)]) hx hb dX10_layLengths_13 hl (by decide) rfl (fun ls hl => ?_)
  refine lv_iload hx hb dX10_layLengths_15 (lv_at hl 0 rfl) ?_
  refine lv_aload_n hx hb dX10_layLengths_17 rfl (lv_at hl 5 rfl) ?_
  refine lv_iload_n hx hb dX10_layLengths_18 rfl (lv_at hl 3 rfl) ?_
  refine g_i (wr := [(q45, .inl (g.2 0, 8, .inl (upd f43 2 1))), (q42, .inl (g.2 0, 8, .inl (upd f43 2 x51)))]) (rV (rest := [.int 0]) hx hb hml hown hE hP hD 3 rfl rfl (c212_X10_many l g q1 q39 w3 w4 w5 w6 w7 w8 (.ref q42) (.ref q45) w11 w12 w13 w14 w15 w16 w17 w18 w19 w20 w21 w22 w23 w24 w25 w26 w27 w28 w29 w30 w31 w32 w33 w34 w35 w36 w37 w38 f40 (hf57) H.size) (kV_X10_many hE (e1456 hE) rfl rfl ⟨(Nat.le_of_ble_eq_true rfl), (Nat.le_of_ble_eq_true rfl)⟩) [2, 3] rfl (by decide) rfl hl.1 rfl (lv_room (Nat.le_of_ble_eq_true rfl)) dX10_layLengths_19 ⟨(Nat.le_of_ble_eq_true rfl), (Nat.le_of_ble_eq_true rfl)⟩) hP hD hS hA [2, 3] [0, 1] rfl rfl (by decide) (by decide) (fun u10 H locs hP hD hS => ?_)
  have hP : va_P g.1 vwCl [(q45, .inl (g.2 0, 8, .inl (upd f43 2 1))), (q42, .inl (g.2 0, 8, .inl (upd f43 2 x51))), (q39, .inl (g.2 0, 497, .inl f40)), (q1, .inr (12, [.ref q39, w3, w4, w5, w6, w7, w8, .ref q42, .ref q45, w11, w12, w13, w14, w15, w16, w17, w18, w19, w20, w21, w22, w23, w24, w25, w26, w27, w28, w29, w30, w31, w32, w33, w34, w35, w36, w37, w38]))] H := hP
  have hD : va_D A [(q45, .inl (g.2 0, 8, .inl (upd f43 2 1))), (q42, .inl (g.2 0, 8, .inl (upd f43 2 x51))), (q39, .inl (g.2 0, 497, .inl f40)), (q1, .inr (12, [.ref q39, w3, w4, w5, w6, w7, w8, .ref q42, .ref q45, w11, w12, w13, w14, w15, w16, w17, w18, w19, w20, w21, w22, w23, w24, w25, w26, w27, w28, w29, w30, w31, w32, w33, w34, w35, w36, w37, w38]))] := hD
  refine lv_icmp_ge (tgt := 134) hx hb dX10_layLengths_22 (by decide) (fun _ => ?_) (fun h => absurd (by decide) h)
  refine lv_aload_n hx hb dX10_layLengths_134 rfl (lv_at hl 5 rfl) ?_
  refine gf_RX10_22 hx hb hown hE hP 3 rfl rfl dX10_layLengths_135 ?_
  refine lv_iload_n hx hb dX10_layLengths_138 rfl (lv_at hl 3 rfl) ?_
  refine lv_iload_n hx hb dX10_layLengths_139 rfl (lv_at hl 2 rfl) ?_
  refine lv_ldc (v := 200000) hx hb hown (e1464 hE) dX10_layLengths_140 ?_
  refine x_mmin (v := 0) hx hb (by rw [hml]; exact hl.1.symm) hown (e1465 hE) (e362 hE) (e9 hE) (e363 hE) (Nat.le_of_ble_eq_true rfl) (Nat.le_of_ble_eq_true rfl) (Nat.le_of_ble_eq_true rfl) (Nat.le_of_ble_eq_true rfl) (by decide) dX10_layLengths_142 ?_
  refine x_iast_same hx hb hE hP hD hS 1 rfl 5 (x_in (by decide)) (by decide) ((pk_un (by decide)).trans hf58) dX10_layLengths_145 (fun H locs hP hD hS => ?_)
  refine lv_aload_n hx hb dX10_layLengths_146 rfl (lv_at hl 5 rfl) ?_
  refine gf_RX10_25 hx hb hown hE hP 3 rfl rfl dX10_layLengths_147 ?_
  refine lv_iload_n hx hb dX10_layLengths_150 rfl (lv_at hl 3 rfl) ?_
  refine lv_iload_n hx hb dX10_layLengths_151 rfl (lv_at hl 1 rfl) ?_
  refine lv_ldc (v := 200000) hx hb hown (e1464 hE) dX10_layLengths_152 ?_
  refine x_mmin (v := 0) hx hb (by rw [hml]; exact hl.1.symm) hown (e1465 hE) (e362 hE) (e9 hE) (e363 hE) (Nat.le_of_ble_eq_true rfl) (Nat.le_of_ble_eq_true rfl) (Nat.le_of_ble_eq_true rfl) (Nat.le_of_ble_eq_true rfl) (by decide) dX10_layLengths_154 ?_
  refine x_iast_same hx hb hE hP hD hS 0 rfl 5 (x_in (by decide)) (by decide) ((pk_un (by decide)).trans hf58) dX10_layLengths_157 (fun H locs hP hD hS => ?_)
  refine lv_iinc (v := 6) (lv' := [(1, .int 6), (4, .int 0), (3, .int 0), (2, .int 0), (5, .int 0), (0, .ref q1)]) hx hb dX10_layLengths_158 hl (k := 3) rfl (by decide) (by decide) rfl (fun ls hl => ?_)
  refine lv_goto (tgt := 2) hx hb dX10_layLengths_161 (by decide) ?_
  refine lv_iload_n hx hb dX10_layLengths_2 rfl (lv_at hl 0 rfl) ?_
  refine lv_bipush (v := 8) hx hb dX10_layLengths_3 (by decide) ?_
  refine lv_icmp_ge (tgt := 164) hx hb dX10_layLengths_5 (by decide) (fun h => absurd h (by decide)) (fun _ => ?_)
  refine lv_iconst (v := 0) hx hb dX10_layLengths_8 (by decide) ?_
  refine lv_istore_n (lv' := [(2, .int 0), (1, .int 6), (4, .int 0), (3, .int 0), (5, .int 0), (0, .ref q1)]) hx hb dX10_layLengths_9 rfl hl (by decide) rfl (fun ls hl => ?_)
  refine lv_iconst (v := 0) hx hb dX10_layLengths_10 (by decide) ?_
  refine lv_istore_n (lv' := [(3, .int 0), (2, .int 0), (1, .int 6), (4, .int 0), (5, .int 0), (0, .ref q1)]) hx hb dX10_layLengths_11 rfl hl (by decide) rfl (fun ls hl => ?_)
  refine lv_iconst (v := 0) hx hb dX10_layLengths_12 (by decide) ?_
  refine lv_istore (lv' := [(4, .int 0), (3, .int 0), (2, .int 0), (1, .int 6), (5, .int 0), (0, .ref q1)]) hx hb dX10_layLengths_13 hl (by decide) rfl (fun ls hl => ?_)
  refine lv_iload hx hb dX10_layLengths_15 (lv_at hl 0 rfl) ?_
  refine lv_aload_n hx hb dX10_layLengths_17 rfl (lv_at hl 5 rfl) ?_
  refine lv_iload_n hx hb dX10_layLengths_18 rfl (lv_at hl 3 rfl) ?_
  refine g_i (wr := [(q45, .inl (g.2 0, 8, .inl (upd f43 2 1))), (q42, .inl (g.2 0, 8, .inl (upd f43 2 x51)))]) (rV (rest := [.int 0]) hx hb hml hown hE hP hD 3 rfl rfl (c214_X10_many l g q1 q39 w3 w4 w5 w6 w7 w8 (.ref q42) (.ref q45) w11 w12 w13 w14 w15 w16 w17 w18 w19 w20 w21 w22 w23 w24 w25 w26 w27 w28 w29 w30 w31 w32 w33 w34 w35 w36 w37 w38 f40 (hf59) H.size) (kV_X10_many hE (e1456 hE) rfl rfl ⟨(Nat.le_of_ble_eq_true rfl), (Nat.le_of_ble_eq_true rfl)⟩) [2, 3] rfl (by decide) rfl hl.1 rfl (lv_room (Nat.le_of_ble_eq_true rfl)) dX10_layLengths_19 ⟨(Nat.le_of_ble_eq_true rfl), (Nat.le_of_ble_eq_true rfl)⟩) hP hD hS hA [2, 3] [0, 1] rfl rfl (by decide) (by decide) (fun u11 H locs hP hD hS => ?_)
  have hP : va_P g.1 vwCl [(q45, .inl (g.2 0, 8, .inl (upd f43 2 1))), (q42, .inl (g.2 0, 8, .inl (upd f43 2 x51))), (q39, .inl (g.2 0, 497, .inl f40)), (q1, .inr (12, [.ref q39, w3, w4, w5, w6, w7, w8, .ref q42, .ref q45, w11, w12, w13, w14, w15, w16, w17, w18, w19, w20, w21, w22, w23, w24, w25, w26, w27, w28, w29, w30, w31, w32, w33, w34, w35, w36, w37, w38]))] H := hP
  have hD : va_D A [(q45, .inl (g.2 0, 8, .inl (upd f43 2 1))), (q42, .inl (g.2 0, 8, .inl (upd f43 2 x51))), (q39, .inl (g.2 0, 497, .inl f40)), (q1, .inr (12, [.ref q39, w3, w4, w5, w6, w7, w8, .ref q42, .ref q45, w11, w12, w13, w14, w15, w16, w17, w18, w19, w20, w21, w22, w23, w24, w25, w26, w27, w28, w29, w30, w31, w32, w33, w34, w35, w36, w37, w38]))] := hD
  refine lv_icmp_ge (tgt := 134) hx hb dX10_layLengths_22 (by decide) (fun _ => ?_) (fun h => absurd (by decide) h)
  refine lv_aload_n hx hb dX10_layLengths_134 rfl (lv_at hl 5 rfl) ?_
  refine gf_RX10_22 hx hb hown hE hP 3 rfl rfl dX10_layLengths_135 ?_
  refine lv_iload_n hx hb dX10_layLengths_138 rfl (lv_at hl 3 rfl) ?_
  refine lv_iload_n hx hb dX10_layLengths_139 rfl (lv_at hl 2 rfl) ?_
  refine lv_ldc (v := 200000) hx hb hown (e1464 hE) dX10_layLengths_140 ?_
  refine x_mmin (v := 0) hx hb (by rw [hml]; exact hl.1.symm) hown (e1465 hE) (e362 hE) (e9 hE) (e363 hE) (Nat.le_of_ble_eq_true rfl) (Nat.le_of_ble_eq_true rfl) (Nat.le_of_ble_eq_true rfl) (Nat.le_of_ble_eq_true rfl) (by decide) dX10_layLengths_142 ?_
  refine x_iast_same hx hb hE hP hD hS 1 rfl 6 (x_in (by decide)) (by decide) ((pk_un (by decide)).trans hf60) dX10_layLengths_145 (fun H locs hP hD hS => ?_)
  refine lv_aload_n hx hb dX10_layLengths_146 rfl (lv_at hl 5 rfl) ?_
  refine gf_RX10_25 hx hb hown hE hP 3 rfl rfl dX10_layLengths_147 ?_
  refine lv_iload_n hx hb dX10_layLengths_150 rfl (lv_at hl 3 rfl) ?_
  refine lv_iload_n hx hb dX10_layLengths_151 rfl (lv_at hl 1 rfl) ?_
  refine lv_ldc (v := 200000) hx hb hown (e1464 hE) dX10_layLengths_152 ?_
  refine x_mmin (v := 0) hx hb (by rw [hml]; exact hl.1.symm) hown (e1465 hE) (e362 hE) (e9 hE) (e363 hE) (Nat.le_of_ble_eq_true rfl) (Nat.le_of_ble_eq_true rfl) (Nat.le_of_ble_eq_true rfl) (Nat.le_of_ble_eq_true rfl) (by decide) dX10_layLengths_154 ?_
  refine x_iast_same hx hb hE hP hD hS 0 rfl 6 (x_in (by decide)) (by decide) ((pk_un (by decide)).trans hf60) dX10_layLengths_157 (fun H locs hP hD hS => ?_)
  refine lv_iinc (v := 7) (lv' := [(1, .int 7), (4, .int 0), (3, .int 0), (2, .int 0), (5, .int 0), (0, .ref q1)]) hx hb dX10_layLengths_158 hl (k := 3) rfl (by decide) (by decide) rfl (fun ls hl => ?_)
  refine lv_goto (tgt := 2) hx hb dX10_layLengths_161 (by decide) ?_
  refine lv_iload_n hx hb dX10_layLengths_2 rfl (lv_at hl 0 rfl) ?_
  refine lv_bipush (v := 8) hx hb dX10_layLengths_3 (by decide) ?_
  refine lv_icmp_ge (tgt := 164) hx hb dX10_layLengths_5 (by decide) (fun h => absurd h (by decide)) (fun _ => ?_)
  refine lv_iconst (v := 0) hx hb dX10_layLengths_8 (by decide) ?_
  refine lv_istore_n (lv' := [(2, .int 0), (1, .int 7), (4, .int 0), (3, .int 0), (5, .int 0), (0, .ref q1)]) hx hb dX10_layLengths_9 rfl hl (by decide) rfl (fun ls hl => ?_)
  refine lv_iconst (v := 0) hx hb dX10_layLengths_10 (by decide) ?_
  refine lv_istore_n (lv' := [(3, .int 0), (2, .int 0), (1, .int 7), (4, .int 0), (5, .int 0), (0, .ref q1)]) hx hb dX10_layLengths_11 rfl hl (by decide) rfl (fun ls hl => ?_)
  refine lv_iconst (v := 0) hx hb dX10_layLengths_12 (by decide) ?_
  refine lv_istore (lv' := [(4, .int 0), (3, .int 0), (2, .int 0), (1, .int 7), (5, .int 0), (0, .ref q1)]) hx hb dX10_layLengths_13 hl (by decide) rfl (fun ls hl => ?_)
  refine lv_iload hx hb dX10_layLengths_15 (lv_at hl 0 rfl) ?_
  refine lv_aload_n hx hb dX10_layLengths_17 rfl (lv_at hl 5 rfl) ?_
  refine lv_iload_n hx hb dX10_layLengths_18 rfl (lv_at hl 3 rfl) ?_
  refine g_i (wr := [(q45, .inl (g.2 0, 8, .inl (upd f43 2 1))), (q42, .inl (g.2 0, 8, .inl (upd f43 2 x51)))]) (rV (rest := [.int 0]) hx hb hml hown hE hP hD 3 rfl rfl (c216_X10_many l g q1 q39 w3 w4 w5 w6 w7 w8 (.ref q42) (.ref q45) w11 w12 w13 w14 w15 w16 w17 w18 w19 w20 w21 w22 w23 w24 w25 w26 w27 w28 w29 w30 w31 w32 w33 w34 w35 w36 w37 w38 f40 (hf61) H.size) (kV_X10_many hE (e1456 hE) rfl rfl ⟨(Nat.le_of_ble_eq_true rfl), (Nat.le_of_ble_eq_true rfl)⟩) [2, 3] rfl (by decide) rfl hl.1 rfl (lv_room (Nat.le_of_ble_eq_true rfl)) dX10_layLengths_19 ⟨(Nat.le_of_ble_eq_true rfl), (Nat.le_of_ble_eq_true rfl)⟩) hP hD hS hA [2, 3] [0, 1] rfl rfl (by decide) (by decide) (fun u12 H locs hP hD hS => ?_)
  have hP : va_P g.1 vwCl [(q45, .inl (g.2 0, 8, .inl (upd f43 2 1))), (q42, .inl (g.2 0, 8, .inl (upd f43 2 x51))), (q39, .inl (g.2 0, 497, .inl f40)), (q1, .inr (12, [.ref q39, w3, w4, w5, w6, w7, w8, .ref q42, .ref q45, w11, w12, w13, w14, w15, w16, w17, w18, w19, w20, w21, w22, w23, w24, w25, w26, w27, w28, w29, w30, w31, w32, w33, w34, w35, w36, w37, w38]))] H := hP
  have hD : va_D A [(q45, .inl (g.2 0, 8, .inl (upd f43 2 1))), (q42, .inl (g.2 0, 8, .inl (upd f43 2 x51))), (q39, .inl (g.2 0, 497, .inl f40)), (q1, .inr (12, [.ref q39, w3, w4, w5, w6, w7, w8, .ref q42, .ref q45, w11, w12, w13, w14, w15, w16, w17, w18, w19, w20, w21, w22, w23, w24, w25, w26, w27, w28, w29, w30, w31, w32, w33, w34, w35, w36, w37, w38]))] := hD
  refine lv_icmp_ge (tgt := 134) hx hb dX10_layLengths_22 (by decide) (fun _ => ?_) (fun h => absurd (by decide) h)
  refine lv_aload_n hx hb dX10_layLengths_134 rfl (lv_at hl 5 rfl) ?_
  refine gf_RX10_22 hx hb hown hE hP 3 rfl rfl dX10_layLengths_135 ?_
  refine lv_iload_n hx hb dX10_layLengths_138 rfl (lv_at hl 3 rfl) ?_
  refine lv_iload_n hx hb dX10_layLengths_139 rfl (lv_at hl 2 rfl) ?_
  refine lv_ldc (v := 200000) hx hb hown (e1464 hE) dX10_layLengths_140 ?_
  refine x_mmin (v := 0) hx hb (by rw [hml]; exact hl.1.symm) hown (e1465 hE) (e362 hE) (e9 hE) (e363 hE) (Nat.le_of_ble_eq_true rfl) (Nat.le_of_ble_eq_true rfl) (Nat.le_of_ble_eq_true rfl) (Nat.le_of_ble_eq_true rfl) (by decide) dX10_layLengths_142 ?_
  refine x_iast_same hx hb hE hP hD hS 1 rfl 7 (x_in (by decide)) (by decide) ((pk_un (by decide)).trans hf62) dX10_layLengths_145 (fun H locs hP hD hS => ?_)
  refine lv_aload_n hx hb dX10_layLengths_146 rfl (lv_at hl 5 rfl) ?_
  refine gf_RX10_25 hx hb hown hE hP 3 rfl rfl dX10_layLengths_147 ?_
  refine lv_iload_n hx hb dX10_layLengths_150 rfl (lv_at hl 3 rfl) ?_
  refine lv_iload_n hx hb dX10_layLengths_151 rfl (lv_at hl 1 rfl) ?_
  refine lv_ldc (v := 200000) hx hb hown (e1464 hE) dX10_layLengths_152 ?_
  refine x_mmin (v := 0) hx hb (by rw [hml]; exact hl.1.symm) hown (e1465 hE) (e362 hE) (e9 hE) (e363 hE) (Nat.le_of_ble_eq_true rfl) (Nat.le_of_ble_eq_true rfl) (Nat.le_of_ble_eq_true rfl) (Nat.le_of_ble_eq_true rfl) (by decide) dX10_layLengths_154 ?_
  refine x_iast_same hx hb hE hP hD hS 0 rfl 7 (x_in (by decide)) (by decide) ((pk_un (by decide)).trans hf62) dX10_layLengths_157 (fun H locs hP hD hS => ?_)
  refine lv_iinc (v := 8) (lv' := [(1, .int 8), (4, .int 0), (3, .int 0), (2, .int 0), (5, .int 0), (0, .ref q1)]) hx hb dX10_layLengths_158 hl (k := 3) rfl (by decide) (by decide) rfl (fun ls hl => ?_)
  refine lv_goto (tgt := 2) hx hb dX10_layLengths_161 (by decide) ?_
  refine lv_iload_n hx hb dX10_layLengths_2 rfl (lv_at hl 0 rfl) ?_
  refine lv_bipush (v := 8) hx hb dX10_layLengths_3 (by decide) ?_
  refine lv_icmp_ge (tgt := 164) hx hb dX10_layLengths_5 (by decide) (fun _ => ?_) (fun h => absurd (by decide) h)
  exact x_vret hx hb hr hlocks hP hD hS hAe hsz (Nat.le_of_ble_eq_true rfl) (Nat.le_of_ble_eq_true rfl) (fun _ => 0) [0, 1, 2, 3] (by decide) rfl dX10_layLengths_164

set_option maxHeartbeats 4000000 in
set_option maxRecDepth 100000 in
theorem c282_X10_isTooGreat (l : Launch) (g : gG) (q1 q39 q40 q41 : Nat) (x51 : Int32) (w3 w4 w5 w6 w7 w8 w11 w12 w13 w14 w15 w16 w17 w18 w19 w20 w21 w22 w23 w24 w25 w26 w27 w28 w29 w30 w31 w32 w33 w34 w35 w36 w37 w38 : Value) (f42 : Nat → Int32) (f44 : Nat → Int32) (hf43 : f42 0 = 0) (hf45 : f44 0 = 0) (hf46 : f42 49 = 0) (hf47 : f44 1 = 0) (hf48 : f42 98 = 1) (hf49 : f42 99 = 0) (hf50 : f42 101 = x51) (hf53 : f42 147 = 0) (hf54 : f44 3 = 0) (hf55 : f42 196 = 0) (hf56 : f44 4 = 0) (hf57 : f42 245 = 0) (hf58 : f44 5 = 0) (hf59 : f42 294 = 0) (hf60 : f44 6 = 0) (hf61 : f42 343 = 0) (hf62 : f44 7 = 0) (hf64 : f42 392 = 0) (h52 : x51 ≤ 200000) (h63 : x51 ≤ 20000) (sz : Nat) : Met l yX10_isTooGreat [Cond.code yX10_isTooGreat cX10_isTooGreat 4 (some .boolean)] ({ frames := 3, cells := 0, slots := 0, locals := 68 } : Room) (va_Pc [.ref q1] (PX g sz [(q41, .inl (g.2 0, 8, .inl f44)), (q40, .inl (g.2 0, 8, .inl f44)), (q39, .inl (g.2 0, 497, .inl f42)), (q1, .inr (12, [.ref q39, w3, w4, w5, w6, w7, w8, .ref q40, .ref q41, w11, w12, w13, w14, w15, w16, w17, w18, w19, w20, w21, w22, w23, w24, w25, w26, w27, w28, w29, w30, w31, w32, w33, w34, w35, w36, w37, w38]))])) (QI g [(q41, .inl (g.2 0, 8, .inl f44)), (q40, .inl (g.2 0, 8, .inl f44)), (q39, .inl (g.2 0, 497, .inl f42)), (q1, .inr (12, [.ref q39, w3, w4, w5, w6, w7, w8, .ref q40, .ref q41, w11, w12, w13, w14, w15, w16, w17, w18, w19, w20, w21, w22, w23, w24, w25, w26, w27, w28, w29, w30, w31, w32, w33, w34, w35, w36, w37, w38]))] sz 0 (fun _ => [(q41, .inl (g.2 0, 8, .inl (upd f44 2 1))), (q40, .inl (g.2 0, 8, .inl (upd f44 2 x51))), (q39, .inl (g.2 0, 497, .inl f42)), (q1, .inr (12, [.ref q39, w3, w4, w5, w6, w7, w8, .ref q40, .ref q41, w11, w12, w13, w14, w15, w16, w17, w18, w19, w20, w21, w22, w23, w24, w25, w26, w27, w28, w29, w30, w31, w32, w33, w34, w35, w36, w37, w38]))])) 0 0 (va_A [(q41, .inl (g.2 0, 8, .inl f44)), (q40, .inl (g.2 0, 8, .inl f44)), (q39, .inl (g.2 0, 497, .inl f42)), (q1, .inr (12, [.ref q39, w3, w4, w5, w6, w7, w8, .ref q40, .ref q41, w11, w12, w13, w14, w15, w16, w17, w18, w19, w20, w21, w22, w23, w24, w25, w26, w27, w28, w29, w30, w31, w32, w33, w34, w35, w36, w37, w38]))] sz) := by
  refine ofN (by decide) (Nat.le_of_ble_eq_true rfl) rfl ?_
  intro p e s m args below meth c A ls hAe hsz hx hb hml hr hlocks hin hown hE hP hD hA hS hl
  have hown : s.vm.findClass RX10 = some m.cls := hown
  refine lv_aload_n hx hb dX10_isTooGreat_0 rfl (lv_at hl 0 rfl) ?_
  refine g_v (wr := []) (rV (rest := []) hx hb hml hown hE hP hD 3 rfl rfl (c281_X10_layLengths l g q1 q39 q40 q41 x51 w3 w4 w5 w6 w7 w8 w11 w12 w13 w14 w15 w16 w17 w18 w19 w20 w21 w22 w23 w24 w25 w26 w27 w28 w29 w30 w31 w32 w33 w34 w35 w36 w37 w38 f42 f44 (hf43) (hf45) (hf46) (hf47) (hf48) (hf49) (hf50) (hf53) (hf54) (hf55) (hf56) (hf57) (hf58) (hf59) (hf60) (hf61) (hf62) h52 s.heap.size) (kV_X10_layLengths hE (e1452 hE) rfl rfl ⟨(Nat.le_of_ble_eq_true rfl), (Nat.le_of_ble_eq_true rfl)⟩) [0, 1, 2, 3] rfl (by decide) rfl hl.1 rfl (lv_room (Nat.le_of_ble_eq_true rfl)) dX10_isTooGreat_1 ⟨(Nat.le_of_ble_eq_true rfl), (Nat.le_of_ble_eq_true rfl)⟩) hP hD hS hA [0, 1, 2, 3] [] rfl rfl (by decide) (by decide) (fun u1 H locs hP hD hS => ?_)
  have hP : va_P g.1 vwCl [(q41, .inl (g.2 0, 8, .inl (upd f44 2 1))), (q40, .inl (g.2 0, 8, .inl (upd f44 2 x51))), (q39, .inl (g.2 0, 497, .inl f42)), (q1, .inr (12, [.ref q39, w3, w4, w5, w6, w7, w8, .ref q40, .ref q41, w11, w12, w13, w14, w15, w16, w17, w18, w19, w20, w21, w22, w23, w24, w25, w26, w27, w28, w29, w30, w31, w32, w33, w34, w35, w36, w37, w38]))] H := hP
  have hD : va_D A [(q41, .inl (g.2 0, 8, .inl (upd f44 2 1))), (q40, .inl (g.2 0, 8, .inl (upd f44 2 x51))), (q39, .inl (g.2 0, 497, .inl f42)), (q1, .inr (12, [.ref q39, w3, w4, w5, w6, w7, w8, .ref q40, .ref q41, w11, w12, w13, w14, w15, w16, w17, w18, w19, w20, w21, w22, w23, w24, w25, w26, w27, w28, w29, w30, w31, w32, w33, w34, w35, w36, w37, w38]))] := hD
  refine lv_iconst (v := 0) hx hb dX10_isTooGreat_4 (by decide) ?_
  refine lv_istore_n (lv' := [(1, .int 0), (0, .ref q1)]) hx hb dX10_isTooGreat_5 rfl hl (by decide) rfl (fun ls hl => ?_)
  refine lv_iconst (v := 0) hx hb dX10_isTooGreat_6 (by decide) ?_
  refine lv_istore_n (lv' := [(2, .int 0), (1, .int 0), (0, .ref q1)]) hx hb dX10_isTooGreat_7 rfl hl (by decide) rfl (fun ls hl => ?_)
  refine lv_iload_n hx hb dX10_isTooGreat_8 rfl (lv_at hl 0 rfl) ?_
  refine lv_bipush (v := 8) hx hb dX10_isTooGreat_9 (by decide) ?_
  refine lv_icmp_ge (tgt := 40) hx hb dX10_isTooGreat_11 (by decide) (fun h => absurd h (by decide)) (fun _ => ?_)
  refine lv_iload_n hx hb dX10_isTooGreat_14 rfl (lv_at hl 1 rfl) ?_
  refine lv_aload_n hx hb dX10_isTooGreat_15 rfl (lv_at hl 2 rfl) ?_
  refine gf_RX10_22 hx hb hown hE hP 3 rfl rfl dX10_isTooGreat_16 ?_
  refine lv_iload_n hx hb dX10_isTooGreat_19 rfl (lv_at hl 0 rfl) ?_
  refine x_iald (v := 0) hx hb hE hP 1 rfl 0 (x_in (by decide)) (by decide) ((pk_un (by decide)).trans hf45) dX10_isTooGreat_20 ?_
  refine lv_sipush (v := 20000) hx hb dX10_isTooGreat_21 (by decide) ?_
  refine lv_icmp_le (tgt := 31) hx hb dX10_isTooGreat_24 (by decide) (fun _ => ?_) (fun h => absurd (by decide) h)
  refine lv_iconst (v := 0) hx hb dX10_isTooGreat_31 (by decide) ?_
  refine x_ior (v := 0) hx hb dX10_isTooGreat_32 (by decide) ?_
  refine lv_istore_n (lv' := [(1, .int 0), (2, .int 0), (0, .ref q1)]) hx hb dX10_isTooGreat_33 rfl hl (by decide) rfl (fun ls hl => ?_)
  refine lv_iinc (v := 1) (lv' := [(2, .int 1), (1, .int 0), (0, .ref q1)]) hx hb dX10_isTooGreat_34 hl (k := 1) rfl (by decide) (by decide) rfl (fun ls hl => ?_)
  refine lv_goto (tgt := 8) hx hb dX10_isTooGreat_37 (by decide) ?_
  refine lv_iload_n hx hb dX10_isTooGreat_8 rfl (lv_at hl 0 rfl) ?_
  refine lv_bipush (v := 8) hx hb dX10_isTooGreat_9 (by decide) ?_
  refine lv_icmp_ge (tgt := 40) hx hb dX10_isTooGreat_11 (by decide) (fun h => absurd h (by decide)) (fun _ => ?_)
  refine lv_iload_n hx hb dX10_isTooGreat_14 rfl (lv_at hl 1 rfl) ?_
  refine lv_aload_n hx hb dX10_isTooGreat_15 rfl (lv_at hl 2 rfl) ?_
  refine gf_RX10_22 hx hb hown hE hP 3 rfl rfl dX10_isTooGreat_16 ?_
  refine lv_iload_n hx hb dX10_isTooGreat_19 rfl (lv_at hl 0 rfl) ?_
  refine x_iald (v := 0) hx hb hE hP 1 rfl 1 (x_in (by decide)) (by decide) ((pk_un (by decide)).trans hf47) dX10_isTooGreat_20 ?_
  refine lv_sipush (v := 20000) hx hb dX10_isTooGreat_21 (by decide) ?_
  refine lv_icmp_le (tgt := 31) hx hb dX10_isTooGreat_24 (by decide) (fun _ => ?_) (fun h => absurd (by decide) h)
  refine lv_iconst (v := 0) hx hb dX10_isTooGreat_31 (by decide) ?_
  refine x_ior (v := 0) hx hb dX10_isTooGreat_32 (by decide) ?_
  refine lv_istore_n (lv' := [(1, .int 0), (2, .int 1), (0, .ref q1)]) hx hb dX10_isTooGreat_33 rfl hl (by decide) rfl (fun ls hl => ?_)
  refine lv_iinc (v := 2) (lv' := [(2, .int 2), (1, .int 0), (0, .ref q1)]) hx hb dX10_isTooGreat_34 hl (k := 1) rfl (by decide) (by decide) rfl (fun ls hl => ?_)
  refine lv_goto (tgt := 8) hx hb dX10_isTooGreat_37 (by decide) ?_
  refine lv_iload_n hx hb dX10_isTooGreat_8 rfl (lv_at hl 0 rfl) ?_
  refine lv_bipush (v := 8) hx hb dX10_isTooGreat_9 (by decide) ?_
  refine lv_icmp_ge (tgt := 40) hx hb dX10_isTooGreat_11 (by decide) (fun h => absurd h (by decide)) (fun _ => ?_)
  refine lv_iload_n hx hb dX10_isTooGreat_14 rfl (lv_at hl 1 rfl) ?_
  refine lv_aload_n hx hb dX10_isTooGreat_15 rfl (lv_at hl 2 rfl) ?_
  refine gf_RX10_22 hx hb hown hE hP 3 rfl rfl dX10_isTooGreat_16 ?_
  refine lv_iload_n hx hb dX10_isTooGreat_19 rfl (lv_at hl 0 rfl) ?_
  refine x_iald (v := x51) hx hb hE hP 1 rfl 2 (x_in (by decide)) (by decide) pk_us dX10_isTooGreat_20 ?_
  refine lv_sipush (v := 20000) hx hb dX10_isTooGreat_21 (by decide) ?_
  refine lv_icmp_le (tgt := 31) hx hb dX10_isTooGreat_24 (by decide) (fun _ => ?_) (fun h => absurd h63 h)
  refine lv_iconst (v := 0) hx hb dX10_isTooGreat_31 (by decide) ?_
  refine x_ior (v := 0) hx hb dX10_isTooGreat_32 (by decide) ?_
  refine lv_istore_n (lv' := [(1, .int 0), (2, .int 2), (0, .ref q1)]) hx hb dX10_isTooGreat_33 rfl hl (by decide) rfl (fun ls hl => ?_)
  refine lv_iinc (v := 3) (lv' := [(2, .int 3), (1, .int 0), (0, .ref q1)]) hx hb dX10_isTooGreat_34 hl (k := 1) rfl (by decide) (by decide) rfl (fun ls hl => ?_)
  refine lv_goto (tgt := 8) hx hb dX10_isTooGreat_37 (by decide) ?_
  refine lv_iload_n hx hb dX10_isTooGreat_8 rfl (lv_at hl 0 rfl) ?_
  refine lv_bipush (v := 8) hx hb dX10_isTooGreat_9 (by decide) ?_
  refine lv_icmp_ge (tgt := 40) hx hb dX10_isTooGreat_11 (by decide) (fun h => absurd h (by decide)) (fun _ => ?_)
  refine lv_iload_n hx hb dX10_isTooGreat_14 rfl (lv_at hl 1 rfl) ?_
  refine lv_aload_n hx hb dX10_isTooGreat_15 rfl (lv_at hl 2 rfl) ?_
  refine gf_RX10_22 hx hb hown hE hP 3 rfl rfl dX10_isTooGreat_16 ?_
  refine lv_iload_n hx hb dX10_isTooGreat_19 rfl (lv_at hl 0 rfl) ?_
  refine x_iald (v := 0) hx hb hE hP 1 rfl 3 (x_in (by decide)) (by decide) ((pk_un (by decide)).trans hf54) dX10_isTooGreat_20 ?_
  refine lv_sipush (v := 20000) hx hb dX10_isTooGreat_21 (by decide) ?_
  refine lv_icmp_le (tgt := 31) hx hb dX10_isTooGreat_24 (by decide) (fun _ => ?_) (fun h => absurd (by decide) h)
  refine lv_iconst (v := 0) hx hb dX10_isTooGreat_31 (by decide) ?_
  refine x_ior (v := 0) hx hb dX10_isTooGreat_32 (by decide) ?_
  refine lv_istore_n (lv' := [(1, .int 0), (2, .int 3), (0, .ref q1)]) hx hb dX10_isTooGreat_33 rfl hl (by decide) rfl (fun ls hl => ?_)
  refine lv_iinc (v := 4) (lv' := [(2, .int 4), (1, .int 0), (0, .ref q1)]) hx hb dX10_isTooGreat_34 hl (k := 1) rfl (by decide) (by decide) rfl (fun ls hl => ?_)
  refine lv_goto (tgt := 8) hx hb dX10_isTooGreat_37 (by decide) ?_
  refine lv_iload_n hx hb dX10_isTooGreat_8 rfl (lv_at hl 0 rfl) ?_
  refine lv_bipush (v := 8) hx hb dX10_isTooGreat_9 (by decide) ?_
  refine lv_icmp_ge (tgt := 40) hx hb dX10_isTooGreat_11 (by decide) (fun h => absurd h (by decide)) (fun _ => ?_)
  refine lv_iload_n hx hb dX10_isTooGreat_14 rfl (lv_at hl 1 rfl) ?_
  refine lv_aload_n hx hb dX10_isTooGreat_15 rfl (lv_at hl 2 rfl) ?_
  refine gf_RX10_22 hx hb hown hE hP 3 rfl rfl dX10_isTooGreat_16 ?_
  refine lv_iload_n hx hb dX10_isTooGreat_19 rfl (lv_at hl 0 rfl) ?_
  refine x_iald (v := 0) hx hb hE hP 1 rfl 4 (x_in (by decide)) (by decide) ((pk_un (by decide)).trans hf56) dX10_isTooGreat_20 ?_
  refine lv_sipush (v := 20000) hx hb dX10_isTooGreat_21 (by decide) ?_
  refine lv_icmp_le (tgt := 31) hx hb dX10_isTooGreat_24 (by decide) (fun _ => ?_) (fun h => absurd (by decide) h)
  refine lv_iconst (v := 0) hx hb dX10_isTooGreat_31 (by decide) ?_
  refine x_ior (v := 0) hx hb dX10_isTooGreat_32 (by decide) ?_
  refine lv_istore_n (lv' := [(1, .int 0), (2, .int 4), (0, .ref q1)]) hx hb dX10_isTooGreat_33 rfl hl (by decide) rfl (fun ls hl => ?_)
  refine lv_iinc (v := 5) (lv' := [(2, .int 5), (1, .int 0), (0, .ref q1)]) hx hb dX10_isTooGreat_34 hl (k := 1) rfl (by decide) (by decide) rfl (fun ls hl => ?_)
  refine lv_goto (tgt := 8) hx hb dX10_isTooGreat_37 (by decide) ?_
  refine lv_iload_n hx hb dX10_isTooGreat_8 rfl (lv_at hl 0 rfl) ?_
  refine lv_bipush (v := 8) hx hb dX10_isTooGreat_9 (by decide) ?_
  refine lv_icmp_ge (tgt := 40) hx hb dX10_isTooGreat_11 (by decide) (fun h => absurd h (by decide)) (fun _ => ?_)
  refine lv_iload_n hx hb dX10_isTooGreat_14 rfl (lv_at hl 1 rfl) ?_
  refine lv_aload_n hx hb dX10_isTooGreat_15 rfl (lv_at hl 2 rfl) ?_
  refine gf_RX10_22 hx hb hown hE hP 3 rfl rfl dX10_isTooGreat_16 ?_
  refine lv_iload_n hx hb dX10_isTooGreat_19 rfl (lv_at hl 0 rfl) ?_
  refine x_iald (v := 0) hx hb hE hP 1 rfl 5 (x_in (by decide)) (by decide) ((pk_un (by decide)).trans hf58) dX10_isTooGreat_20 ?_
  refine lv_sipush (v := 20000) hx hb dX10_isTooGreat_21 (by decide) ?_
  refine lv_icmp_le (tgt := 31) hx hb dX10_isTooGreat_24 (by decide) (fun _ => ?_) (fun h => absurd (by decide) h)
  refine lv_iconst (v := 0) hx hb dX10_isTooGreat_31 (by decide) ?_
  refine x_ior (v := 0) hx hb dX10_isTooGreat_32 (by decide) ?_
  refine lv_istore_n (lv' := [(1, .int 0), (2, .int 5), (0, .ref q1)]) hx hb dX10_isTooGreat_33 rfl hl (by decide) rfl (fun ls hl => ?_)
  refine lv_iinc (v := 6) (lv' := [(2, .int 6), (1, .int 0), (0, .ref q1)]) hx hb dX10_isTooGreat_34 hl (k := 1) rfl (by decide) (by decide) rfl (fun ls hl => ?_)
  refine lv_goto (tgt := 8) hx hb dX10_isTooGreat_37 (by decide) ?_
  refine lv_iload_n hx hb dX10_isTooGreat_8 rfl (lv_at hl 0 rfl) ?_
  refine lv_bipush (v := 8) hx hb dX10_isTooGreat_9 (by decide) ?_
  refine lv_icmp_ge (tgt := 40) hx hb dX10_isTooGreat_11 (by decide) (fun h => absurd h (by decide)) (fun _ => ?_)
  refine lv_iload_n hx hb dX10_isTooGreat_14 rfl (lv_at hl 1 rfl) ?_
  refine lv_aload_n hx hb dX10_isTooGreat_15 rfl (lv_at hl 2 rfl) ?_
  refine gf_RX10_22 hx hb hown hE hP 3 rfl rfl dX10_isTooGreat_16 ?_
  refine lv_iload_n hx hb dX10_isTooGreat_19 rfl (lv_at hl 0 rfl) ?_
  refine x_iald (v := 0) hx hb hE hP 1 rfl 6 (x_in (by decide)) (by decide) ((pk_un (by decide)).trans hf60) dX10_isTooGreat_20 ?_
  refine lv_sipush (v := 20000) hx hb dX10_isTooGreat_21 (by decide) ?_
  refine lv_icmp_le (tgt := 31) hx hb dX10_isTooGreat_24 (by decide) (fun _ => ?_) (fun h => absurd (by decide) h)
  refine lv_iconst (v := 0) hx hb dX10_isTooGreat_31 (by decide) ?_
  refine x_ior (v := 0) hx hb dX10_isTooGreat_32 (by decide) ?_
  refine lv_istore_n (lv' := [(1, .int 0), (2, .int 6), (0, .ref q1)]) hx hb dX10_isTooGreat_33 rfl hl (by decide) rfl (fun ls hl => ?_)
  refine lv_iinc (v := 7) (lv' := [(2, .int 7), (1, .int 0), (0, .ref q1)]) hx hb dX10_isTooGreat_34 hl (k := 1) rfl (by decide) (by decide) rfl (fun ls hl => ?_)
  refine lv_goto (tgt := 8) hx hb dX10_isTooGreat_37 (by decide) ?_
  refine lv_iload_n hx hb dX10_isTooGreat_8 rfl (lv_at hl 0 rfl) ?_
  refine lv_bipush (v := 8) hx hb dX10_isTooGreat_9 (by decide) ?_
  refine lv_icmp_ge (tgt := 40) hx hb dX10_isTooGreat_11 (by decide) (fun h => absurd h (by decide)) (fun _ => ?_)
  refine lv_iload_n hx hb dX10_isTooGreat_14 rfl (lv_at hl 1 rfl) ?_
  refine lv_aload_n hx hb dX10_isTooGreat_15 rfl (lv_at hl 2 rfl) ?_
  refine gf_RX10_22 hx hb hown hE hP 3 rfl rfl dX10_isTooGreat_16 ?_
  refine lv_iload_n hx hb dX10_isTooGreat_19 rfl (lv_at hl 0 rfl) ?_
  refine x_iald (v := 0) hx hb hE hP 1 rfl 7 (x_in (by decide)) (by decide) ((pk_un (by decide)).trans hf62) dX10_isTooGreat_20 ?_
  refine lv_sipush (v := 20000) hx hb dX10_isTooGreat_21 (by decide) ?_
  refine lv_icmp_le (tgt := 31) hx hb dX10_isTooGreat_24 (by decide) (fun _ => ?_) (fun h => absurd (by decide) h)
  refine lv_iconst (v := 0) hx hb dX10_isTooGreat_31 (by decide) ?_
  refine x_ior (v := 0) hx hb dX10_isTooGreat_32 (by decide) ?_
  refine lv_istore_n (lv' := [(1, .int 0), (2, .int 7), (0, .ref q1)]) hx hb dX10_isTooGreat_33 rfl hl (by decide) rfl (fun ls hl => ?_)
  refine lv_iinc (v := 8) (lv' := [(2, .int 8), (1, .int 0), (0, .ref q1)]) hx hb dX10_isTooGreat_34 hl (k := 1) rfl (by decide) (by decide) rfl (fun ls hl => ?_)
  refine lv_goto (tgt := 8) hx hb dX10_isTooGreat_37 (by decide) ?_
  refine lv_iload_n hx hb dX10_isTooGreat_8 rfl (lv_at hl 0 rfl) ?_
  refine lv_bipush (v := 8) hx hb dX10_isTooGreat_9 (by decide) ?_
  refine lv_icmp_ge (tgt := 40) hx hb dX10_isTooGreat_11 (by decide) (fun _ => ?_) (fun h => absurd (by decide) h)
  refine lv_iconst (v := 0) hx hb dX10_isTooGreat_40 (by decide) ?_
  refine lv_istore_n (lv' := [(2, .int 0), (1, .int 0), (0, .ref q1)]) hx hb dX10_isTooGreat_41 rfl hl (by decide) rfl (fun ls hl => ?_)
  refine lv_iconst (v := 0) hx hb dX10_isTooGreat_42 (by decide) ?_
  refine lv_istore_n (lv' := [(3, .int 0), (2, .int 0), (1, .int 0), (0, .ref q1)]) hx hb dX10_isTooGreat_43 rfl hl (by decide) rfl (fun ls hl => ?_)
  refine lv_iload_n hx hb dX10_isTooGreat_44 rfl (lv_at hl 0 rfl) ?_
  refine lv_aload_n hx hb dX10_isTooGreat_45 rfl (lv_at hl 3 rfl) ?_
  refine gf_RX10_9 hx hb hown hE hP 3 rfl rfl dX10_isTooGreat_46 ?_
  refine lv_sipush (v := 392) hx hb dX10_isTooGreat_49 (by decide) ?_
  refine x_iald (v := 0) hx hb hE hP 2 rfl 392 (x_in (by decide)) (by decide) hf64 dX10_isTooGreat_52 ?_
  refine lv_icmp_ge (tgt := 115) hx hb dX10_isTooGreat_53 (by decide) (fun _ => ?_) (fun h => absurd (by decide) h)
  refine lv_iload_n hx hb dX10_isTooGreat_115 rfl (lv_at hl 2 rfl) ?_
  refine lv_if_ne (tgt := 126) hx hb dX10_isTooGreat_116 (by decide) (fun h => absurd h (by decide)) (fun _ => ?_)
  refine lv_iload_n hx hb dX10_isTooGreat_119 rfl (lv_at hl 1 rfl) ?_
  refine lv_sipush (v := 300) hx hb dX10_isTooGreat_120 (by decide) ?_
  refine lv_icmp_le (tgt := 130) hx hb dX10_isTooGreat_123 (by decide) (fun _ => ?_) (fun h => absurd (by decide) h)
  refine lv_iconst (v := 0) hx hb dX10_isTooGreat_130 (by decide) ?_
  exact x_zret hx hb hr rfl rfl hlocks hP hD hS hAe hsz (Nat.le_of_ble_eq_true rfl) (Nat.le_of_ble_eq_true rfl) (fun _ => 0) [0, 1, 2, 3] (by decide) rfl dX10_isTooGreat_131

set_option maxHeartbeats 4000000 in
set_option maxRecDepth 100000 in
theorem c283_X10_adds (l : Launch) (g : gG) (q1 q42 q46 q47 : Nat) (x2 x3 x4 : Int32) (w6 w7 w8 w9 w10 w11 w14 w15 w16 w17 w18 w19 w20 w21 w22 w23 w24 w25 w26 w27 w28 w29 w30 w31 w32 w33 w34 w35 w36 w37 w38 w39 w40 w41 : Value) (f43 : Nat → Int32) (f49 : Nat → Int32) (hf44 : f43 98 = 0) (hf45 : f43 99 = 0) (hf48 : f43 0 = 0) (hf50 : f49 0 = 0) (hf51 : f43 49 = 0) (hf52 : f49 1 = 0) (hf54 : f43 147 = 0) (hf55 : f49 3 = 0) (hf56 : f43 196 = 0) (hf57 : f49 4 = 0) (hf58 : f43 245 = 0) (hf59 : f49 5 = 0) (hf60 : f43 294 = 0) (hf61 : f49 6 = 0) (hf62 : f43 343 = 0) (hf63 : f49 7 = 0) (hf65 : f43 392 = 0) (h53 : x3 ≤ 200000) (h64 : x3 ≤ 20000) (sz : Nat) : Met l yX10_adds [Cond.code yX10_adds cX10_adds 8 (some .boolean)] ({ frames := 4, cells := 0, slots := 0, locals := 91 } : Room) (va_Pc [.ref q1, .int 2, .int 0, .int x2, .int x3, .int x4] (PX g sz [(q47, .inl (g.2 0, 8, .inl f49)), (q46, .inl (g.2 0, 8, .inl f49)), (q42, .inl (g.2 0, 497, .inl f43)), (q1, .inr (12, [.ref q42, w6, w7, w8, w9, w10, w11, .ref q46, .ref q47, w14, w15, w16, w17, w18, w19, w20, w21, w22, w23, w24, w25, w26, w27, w28, w29, w30, w31, w32, w33, w34, w35, w36, w37, w38, w39, w40, w41]))])) (QI g [(q47, .inl (g.2 0, 8, .inl f49)), (q46, .inl (g.2 0, 8, .inl f49)), (q42, .inl (g.2 0, 497, .inl f43)), (q1, .inr (12, [.ref q42, w6, w7, w8, w9, w10, w11, .ref q46, .ref q47, w14, w15, w16, w17, w18, w19, w20, w21, w22, w23, w24, w25, w26, w27, w28, w29, w30, w31, w32, w33, w34, w35, w36, w37, w38, w39, w40, w41]))] sz 1 (fun _ => [(q47, .inl (g.2 0, 8, .inl (upd f49 2 1))), (q46, .inl (g.2 0, 8, .inl (upd f49 2 x3))), (q42, .inl (g.2 0, 497, .inl (upd (upd (upd (upd f43 100 x2) 101 x3) 102 x4) 98 1))), (q1, .inr (12, [.ref q42, w6, w7, w8, w9, w10, w11, .ref q46, .ref q47, w14, w15, w16, w17, w18, w19, w20, w21, w22, w23, w24, w25, w26, w27, w28, w29, w30, w31, w32, w33, w34, w35, w36, w37, w38, w39, w40, w41]))])) 0 0 (va_A [(q47, .inl (g.2 0, 8, .inl f49)), (q46, .inl (g.2 0, 8, .inl f49)), (q42, .inl (g.2 0, 497, .inl f43)), (q1, .inr (12, [.ref q42, w6, w7, w8, w9, w10, w11, .ref q46, .ref q47, w14, w15, w16, w17, w18, w19, w20, w21, w22, w23, w24, w25, w26, w27, w28, w29, w30, w31, w32, w33, w34, w35, w36, w37, w38, w39, w40, w41]))] sz) := by
  refine ofN (by decide) (Nat.le_of_ble_eq_true rfl) rfl ?_
  intro p e s m args below meth c A ls hAe hsz hx hb hml hr hlocks hin hown hE hP hD hA hS hl
  have hown : s.vm.findClass RX10 = some m.cls := hown
  refine lv_iload_n hx hb dX10_adds_0 rfl (lv_at hl 1 rfl) ?_
  refine g0_i (rS (rest := []) hx hb hml hown hE hP hD (c205_X10_itemsAt l g s.heap.size) (kS_X10_itemsAt hE (e1445 hE) rfl rfl ⟨(Nat.le_of_ble_eq_true rfl), (Nat.le_of_ble_eq_true rfl)⟩) [] rfl (by decide) rfl hl.1 rfl (lv_room (Nat.le_of_ble_eq_true rfl)) dX10_adds_1 ⟨(Nat.le_of_ble_eq_true rfl), (Nat.le_of_ble_eq_true rfl)⟩) hP hD hS hA (fun u9 H locs hP hS => ?_)
  refine lv_istore (lv' := [(6, .int 98), (0, .ref q1), (1, .int 2), (2, .int 0), (3, .int x2), (4, .int x3), (5, .int x4)]) hx hb dX10_adds_4 hl (by decide) rfl (fun ls hl => ?_)
  refine lv_aload_n hx hb dX10_adds_6 rfl (lv_at hl 1 rfl) ?_
  refine gf_RX10_9 hx hb hown hE hP 3 rfl rfl dX10_adds_7 ?_
  refine lv_iload hx hb dX10_adds_10 (lv_at hl 0 rfl) ?_
  refine x_iald (v := 0) hx hb hE hP 2 rfl 98 (x_in (by decide)) (by decide) hf44 dX10_adds_12 ?_
  refine lv_bipush (v := 12) hx hb dX10_adds_13 (by decide) ?_
  refine lv_icmp_ne (tgt := 20) hx hb dX10_adds_15 (by decide) (fun _ => ?_) (fun h => absurd h (by decide))
  refine lv_iload hx hb dX10_adds_20 (lv_at hl 0 rfl) ?_
  refine lv_iconst (v := 1) hx hb dX10_adds_22 (by decide) ?_
  refine x_iadd (v := 99) hx hb dX10_adds_23 (by decide) ?_
  refine lv_iconst (v := 4) hx hb dX10_adds_24 (by decide) ?_
  refine lv_aload_n hx hb dX10_adds_25 rfl (lv_at hl 1 rfl) ?_
  refine gf_RX10_9 hx hb hown hE hP 3 rfl rfl dX10_adds_26 ?_
  refine lv_iload hx hb dX10_adds_29 (lv_at hl 0 rfl) ?_
  refine x_iald (v := 0) hx hb hE hP 2 rfl 98 (x_in (by decide)) (by decide) hf44 dX10_adds_31 ?_
  refine x_imul (v := 0) hx hb dX10_adds_32 (by decide) ?_
  refine x_iadd (v := 99) hx hb dX10_adds_33 (by decide) ?_
  refine lv_istore (lv' := [(7, .int 99), (6, .int 98), (0, .ref q1), (1, .int 2), (2, .int 0), (3, .int x2), (4, .int x3), (5, .int x4)]) hx hb dX10_adds_34 hl (by decide) rfl (fun ls hl => ?_)
  refine lv_aload_n hx hb dX10_adds_36 rfl (lv_at hl 2 rfl) ?_
  refine gf_RX10_9 hx hb hown hE hP 3 rfl rfl dX10_adds_37 ?_
  refine lv_iload hx hb dX10_adds_40 (lv_at hl 0 rfl) ?_
  refine lv_iload_n hx hb dX10_adds_42 rfl (lv_at hl 4 rfl) ?_
  refine x_iast_same hx hb hE hP hD hS 2 rfl 99 (x_in (by decide)) (by decide) hf45 dX10_adds_43 (fun H locs hP hD hS => ?_)
  refine lv_aload_n hx hb dX10_adds_44 rfl (lv_at hl 2 rfl) ?_
  refine gf_RX10_9 hx hb hown hE hP 3 rfl rfl dX10_adds_45 ?_
  refine lv_iload hx hb dX10_adds_48 (lv_at hl 0 rfl) ?_
  refine lv_iconst (v := 1) hx hb dX10_adds_50 (by decide) ?_
  refine x_iadd (v := 100) hx hb dX10_adds_51 (by decide) ?_
  refine lv_iload_n hx hb dX10_adds_52 rfl (lv_at hl 5 rfl) ?_
  refine x_iast (ws' := [(q47, .inl (g.2 0, 8, .inl f49)), (q46, .inl (g.2 0, 8, .inl f49)), (q42, .inl (g.2 0, 497, .inl (upd f43 100 x2))), (q1, .inr (12, [.ref q42, w6, w7, w8, w9, w10, w11, .ref q46, .ref q47, w14, w15, w16, w17, w18, w19, w20, w21, w22, w23, w24, w25, w26, w27, w28, w29, w30, w31, w32, w33, w34, w35, w36, w37, w38, w39, w40, w41]))]) hx hb hE hP hD hS 2 rfl 100 (x_in (by decide)) (by decide) dX10_adds_53 rfl (fun H locs hP hD hS => ?_)
  refine lv_aload_n hx hb dX10_adds_54 rfl (lv_at hl 2 rfl) ?_
  refine gf_RX10_9 hx hb hown hE hP 3 rfl rfl dX10_adds_55 ?_
  refine lv_iload hx hb dX10_adds_58 (lv_at hl 0 rfl) ?_
  refine lv_iconst (v := 2) hx hb dX10_adds_60 (by decide) ?_
  refine x_iadd (v := 101) hx hb dX10_adds_61 (by decide) ?_
  refine lv_iload hx hb dX10_adds_62 (lv_at hl 6 rfl) ?_
  refine x_iast (ws' := [(q47, .inl (g.2 0, 8, .inl f49)), (q46, .inl (g.2 0, 8, .inl f49)), (q42, .inl (g.2 0, 497, .inl (upd (upd f43 100 x2) 101 x3))), (q1, .inr (12, [.ref q42, w6, w7, w8, w9, w10, w11, .ref q46, .ref q47, w14, w15, w16, w17, w18, w19, w20, w21, w22, w23, w24, w25, w26, w27, w28, w29, w30, w31, w32, w33, w34, w35, w36, w37, w38, w39, w40, w41]))]) hx hb hE hP hD hS 2 rfl 101 (x_in (by decide)) (by decide) dX10_adds_64 rfl (fun H locs hP hD hS => ?_)
  refine lv_aload_n hx hb dX10_adds_65 rfl (lv_at hl 2 rfl) ?_
  refine gf_RX10_9 hx hb hown hE hP 3 rfl rfl dX10_adds_66 ?_
  refine lv_iload hx hb dX10_adds_69 (lv_at hl 0 rfl) ?_
  refine lv_iconst (v := 3) hx hb dX10_adds_71 (by decide) ?_
  refine x_iadd (v := 102) hx hb dX10_adds_72 (by decide) ?_
  refine lv_iload hx hb dX10_adds_73 (lv_at hl 7 rfl) ?_
  refine x_iast (ws' := [(q47, .inl (g.2 0, 8, .inl f49)), (q46, .inl (g.2 0, 8, .inl f49)), (q42, .inl (g.2 0, 497, .inl (upd (upd (upd f43 100 x2) 101 x3) 102 x4))), (q1, .inr (12, [.ref q42, w6, w7, w8, w9, w10, w11, .ref q46, .ref q47, w14, w15, w16, w17, w18, w19, w20, w21, w22, w23, w24, w25, w26, w27, w28, w29, w30, w31, w32, w33, w34, w35, w36, w37, w38, w39, w40, w41]))]) hx hb hE hP hD hS 2 rfl 102 (x_in (by decide)) (by decide) dX10_adds_75 rfl (fun H locs hP hD hS => ?_)
  refine lv_aload_n hx hb dX10_adds_76 rfl (lv_at hl 2 rfl) ?_
  refine gf_RX10_9 hx hb hown hE hP 3 rfl rfl dX10_adds_77 ?_
  refine lv_iload hx hb dX10_adds_80 (lv_at hl 1 rfl) ?_
  refine lv_dup2_11 hx hb dX10_adds_82 rfl rfl ?_
  refine x_iald (v := 0) hx hb hE hP 2 rfl 98 (x_in (by decide)) (by decide) ((pk_un (by decide)).trans ((pk_un (by decide)).trans ((pk_un (by decide)).trans hf44))) dX10_adds_83 ?_
  refine lv_iconst (v := 1) hx hb dX10_adds_84 (by decide) ?_
  refine x_iadd (v := 1) hx hb dX10_adds_85 (by decide) ?_
  refine x_iast (ws' := [(q47, .inl (g.2 0, 8, .inl f49)), (q46, .inl (g.2 0, 8, .inl f49)), (q42, .inl (g.2 0, 497, .inl (upd (upd (upd (upd f43 100 x2) 101 x3) 102 x4) 98 1))), (q1, .inr (12, [.ref q42, w6, w7, w8, w9, w10, w11, .ref q46, .ref q47, w14, w15, w16, w17, w18, w19, w20, w21, w22, w23, w24, w25, w26, w27, w28, w29, w30, w31, w32, w33, w34, w35, w36, w37, w38, w39, w40, w41]))]) hx hb hE hP hD hS 2 rfl 98 (x_in (by decide)) (by decide) dX10_adds_86 rfl (fun H locs hP hD hS => ?_)
  refine lv_aload_n hx hb dX10_adds_87 rfl (lv_at hl 2 rfl) ?_
  refine g_i (wr := []) (rV (rest := []) hx hb hml hown hE hP hD 3 rfl rfl (c282_X10_isTooGreat l g q1 q42 q46 q47 x3 w6 w7 w8 w9 w10 w11 w14 w15 w16 w17 w18 w19 w20 w21 w22 w23 w24 w25 w26 w27 w28 w29 w30 w31 w32 w33 w34 w35 w36 w37 w38 w39 w40 w41 (upd (upd (upd (upd f43 100 x2) 101 x3) 102 x4) 98 1) f49 (((pk_un (by decide)).trans ((pk_un (by decide)).trans ((pk_un (by decide)).trans ((pk_un (by decide)).trans hf48))))) (hf50) (((pk_un (by decide)).trans ((pk_un (by decide)).trans ((pk_un (by decide)).trans ((pk_un (by decide)).trans hf51))))) (hf52) (pk_us) (((pk_un (by decide)).trans ((pk_un (by decide)).trans ((pk_un (by decide)).trans ((pk_un (by decide)).trans hf45))))) (((pk_un (by decide)).trans ((pk_un (by decide)).trans pk_us))) (((pk_un (by decide)).trans ((pk_un (by decide)).trans ((pk_un (by decide)).trans ((pk_un (by decide)).trans hf54))))) (hf55) (((pk_un (by decide)).trans ((pk_un (by decide)).trans ((pk_un (by decide)).trans ((pk_un (by decide)).trans hf56))))) (hf57) (((pk_un (by decide)).trans ((pk_un (by decide)).trans ((pk_un (by decide)).trans ((pk_un (by decide)).trans hf58))))) (hf59) (((pk_un (by decide)).trans ((pk_un (by decide)).trans ((pk_un (by decide)).trans ((pk_un (by decide)).trans hf60))))) (hf61) (((pk_un (by decide)).trans ((pk_un (by decide)).trans ((pk_un (by decide)).trans ((pk_un (by decide)).trans hf62))))) (hf63) (((pk_un (by decide)).trans ((pk_un (by decide)).trans ((pk_un (by decide)).trans ((pk_un (by decide)).trans hf65))))) h53 h64 H.size) (kV_X10_isTooGreat hE (e1448 hE) rfl rfl ⟨(Nat.le_of_ble_eq_true rfl), (Nat.le_of_ble_eq_true rfl)⟩) [0, 1, 2, 3] rfl (by decide) rfl hl.1 rfl (lv_room (Nat.le_of_ble_eq_true rfl)) dX10_adds_88 ⟨(Nat.le_of_ble_eq_true rfl), (Nat.le_of_ble_eq_true rfl)⟩) hP hD hS hA [0, 1, 2, 3] [] rfl rfl (by decide) (by decide) (fun u2 H locs hP hD hS => ?_)
  have hP : va_P g.1 vwCl [(q47, .inl (g.2 0, 8, .inl (upd f49 2 1))), (q46, .inl (g.2 0, 8, .inl (upd f49 2 x3))), (q42, .inl (g.2 0, 497, .inl (upd (upd (upd (upd f43 100 x2) 101 x3) 102 x4) 98 1))), (q1, .inr (12, [.ref q42, w6, w7, w8, w9, w10, w11, .ref q46, .ref q47, w14, w15, w16, w17, w18, w19, w20, w21, w22, w23, w24, w25, w26, w27, w28, w29, w30, w31, w32, w33, w34, w35, w36, w37, w38, w39, w40, w41]))] H := hP
  have hD : va_D A [(q47, .inl (g.2 0, 8, .inl (upd f49 2 1))), (q46, .inl (g.2 0, 8, .inl (upd f49 2 x3))), (q42, .inl (g.2 0, 497, .inl (upd (upd (upd (upd f43 100 x2) 101 x3) 102 x4) 98 1))), (q1, .inr (12, [.ref q42, w6, w7, w8, w9, w10, w11, .ref q46, .ref q47, w14, w15, w16, w17, w18, w19, w20, w21, w22, w23, w24, w25, w26, w27, w28, w29, w30, w31, w32, w33, w34, w35, w36, w37, w38, w39, w40, w41]))] := hD
  refine lv_if_ne (tgt := 98) hx hb dX10_adds_91 (by decide) (fun h => absurd h (by decide)) (fun _ => ?_)
  refine lv_iconst (v := 1) hx hb dX10_adds_94 (by decide) ?_
  refine lv_goto (tgt := 99) hx hb dX10_adds_95 (by decide) ?_
  exact x_zret hx hb hr rfl rfl hlocks hP hD hS hAe hsz (Nat.le_of_ble_eq_true rfl) (Nat.le_of_ble_eq_true rfl) (fun _ => 0) [0, 1, 2, 3] (by decide) rfl dX10_adds_99

set_option maxHeartbeats 4000000 in
set_option maxRecDepth 100000 in
theorem c284_X10_added (l : Launch) (g : gG) (q1 q48 q49 q54 q55 q71 : Nat) (x2 x3 x4 : Int32) (w12 w14 w17 w20 w21 w22 w23 w24 w25 w26 w27 w28 w29 w30 w31 w32 w33 w34 w35 w36 w37 w38 w39 w40 w41 w42 w43 w44 w45 w46 w47 : Value) (f50 : Nat → Int32) (f51 : Nat → Int32) (hf52 : f50 98 = 0) (hf53 : f50 99 = 0) (hf56 : f50 0 = 0) (hf57 : f51 0 = 0) (hf58 : f50 49 = 0) (hf59 : f51 1 = 0) (hf60 : f50 147 = 0) (hf61 : f51 3 = 0) (hf62 : f50 196 = 0) (hf63 : f51 4 = 0) (hf64 : f50 245 = 0) (hf65 : f51 5 = 0) (hf66 : f50 294 = 0) (hf67 : f51 6 = 0) (hf68 : f50 343 = 0) (hf69 : f51 7 = 0) (hf70 : f50 392 = 0) (h5 : (0 : Int32) ≤ x2) (h6 : x2 ≤ 99) (h7 : (1 : Int32) ≤ x3) (h8 : x3 ≤ 16) (h9 : (1 : Int32) ≤ x4) (h10 : x4 ≤ 9) (sz : Nat) : Met l yX10_added [Cond.code yX10_added cX10_added 6 (some .int)] ({ frames := 5, cells := 0, slots := 0, locals := 118 } : Room) (va_Pc [.ref q1, .int 2, .int 0, .int x2, .int x3, .int x4] (PX g sz [(q71, .inl (g.2 0, 3976, .inl f51)), (q55, .inl (g.2 0, 8, .inl f51)), (q54, .inl (g.2 0, 8, .inl f51)), (q49, .inl (g.2 0, 497, .inl f51)), (q48, .inl (g.2 0, 497, .inl f50)), (q1, .inr (12, [.ref q48, w12, .ref q49, w14, .ref q71, .int 0, w17, .ref q54, .ref q55, w20, w21, w22, w23, w24, w25, w26, w27, w28, w29, w30, w31, w32, w33, w34, w35, w36, w37, w38, w39, w40, w41, w42, w43, w44, w45, w46, w47]))])) (QI g [(q71, .inl (g.2 0, 3976, .inl f51)), (q55, .inl (g.2 0, 8, .inl f51)), (q54, .inl (g.2 0, 8, .inl f51)), (q49, .inl (g.2 0, 497, .inl f51)), (q48, .inl (g.2 0, 497, .inl f50)), (q1, .inr (12, [.ref q48, w12, .ref q49, w14, .ref q71, .int 0, w17, .ref q54, .ref q55, w20, w21, w22, w23, w24, w25, w26, w27, w28, w29, w30, w31, w32, w33, w34, w35, w36, w37, w38, w39, w40, w41, w42, w43, w44, w45, w46, w47]))] sz 1 (fun _ => [(q55, .inl (g.2 0, 8, .inl (upd f51 2 1))), (q54, .inl (g.2 0, 8, .inl (upd f51 2 x3))), (q71, .inl (g.2 0, 3976, .inl (cpF 497 (cpF 497 f50 f51) f51))), (q49, .inl (g.2 0, 497, .inl (cpF 497 f50 f51))), (q48, .inl (g.2 0, 497, .inl (upd (upd (upd (upd f50 100 x2) 101 x3) 102 x4) 98 1))), (q1, .inr (12, [.ref q48, w12, .ref q49, w14, .ref q71, .int 1, .int 0, .ref q54, .ref q55, w20, w21, w22, w23, w24, w25, w26, w27, w28, w29, w30, w31, w32, w33, w34, w35, w36, w37, w38, w39, w40, w41, w42, w43, w44, w45, w46, w47]))])) 0 0 (va_A [(q71, .inl (g.2 0, 3976, .inl f51)), (q55, .inl (g.2 0, 8, .inl f51)), (q54, .inl (g.2 0, 8, .inl f51)), (q49, .inl (g.2 0, 497, .inl f51)), (q48, .inl (g.2 0, 497, .inl f50)), (q1, .inr (12, [.ref q48, w12, .ref q49, w14, .ref q71, .int 0, w17, .ref q54, .ref q55, w20, w21, w22, w23, w24, w25, w26, w27, w28, w29, w30, w31, w32, w33, w34, w35, w36, w37, w38, w39, w40, w41, w42, w43, w44, w45, w46, w47]))] sz) := by
  refine ofN (by decide) (Nat.le_of_ble_eq_true rfl) rfl ?_
  intro p e s m args below meth c A ls hAe hsz hx hb hml hr hlocks hin hown hE hP hD hA hS hl
  have hown : s.vm.findClass RX10 = some m.cls := hown
  refine lv_aload_n hx hb dX10_added_0 rfl (lv_at hl 0 rfl) ?_
  refine lv_iload_n hx hb dX10_added_1 rfl (lv_at hl 1 rfl) ?_
  refine g0_i (rS (rest := [.ref q1]) hx hb hml hown hE hP hD (c94_X10_isPattern l g 2 (by decide) (by decide) s.heap.size) (kS_X10_isPattern hE (e1428 hE) rfl rfl ⟨(Nat.le_of_ble_eq_true rfl), (Nat.le_of_ble_eq_true rfl)⟩) [] rfl (by decide) rfl hl.1 rfl (lv_room (Nat.le_of_ble_eq_true rfl)) dX10_added_2 ⟨(Nat.le_of_ble_eq_true rfl), (Nat.le_of_ble_eq_true rfl)⟩) hP hD hS hA (fun u9 H locs hP hS => ?_)
  refine lv_if_ne (tgt := 12) hx hb dX10_added_5 (by decide) (fun _ => ?_) (fun h => absurd h (by decide))
  refine lv_iload_n hx hb dX10_added_12 rfl (lv_at hl 1 rfl) ?_
  refine lv_iload_n hx hb dX10_added_13 rfl (lv_at hl 2 rfl) ?_
  refine lv_iload_n hx hb dX10_added_14 rfl (lv_at hl 3 rfl) ?_
  refine lv_iload hx hb dX10_added_15 (lv_at hl 4 rfl) ?_
  refine lv_iload hx hb dX10_added_17 (lv_at hl 5 rfl) ?_
  refine g0_i (rS (rest := [.ref q1]) hx hb hml hown hE hP hD (c277_X10_isRanged l g x2 x3 x4 h5 h6 h7 h8 h9 h10 H.size) (kS_X10_isRanged hE (e1434 hE) rfl rfl ⟨(Nat.le_of_ble_eq_true rfl), (Nat.le_of_ble_eq_true rfl)⟩) [] rfl (by decide) rfl hl.1 rfl (lv_room (Nat.le_of_ble_eq_true rfl)) dX10_added_19 ⟨(Nat.le_of_ble_eq_true rfl), (Nat.le_of_ble_eq_true rfl)⟩) hP hD hS hA (fun u9 H locs hP hS => ?_)
  refine lv_if_ne (tgt := 29) hx hb dX10_added_22 (by decide) (fun _ => ?_) (fun h => absurd h (by decide))
  refine lv_iconst (v := 0) hx hb dX10_added_29 (by decide) ?_
  refine pf_RX10_86 (ws' := [(q71, .inl (g.2 0, 3976, .inl f51)), (q55, .inl (g.2 0, 8, .inl f51)), (q54, .inl (g.2 0, 8, .inl f51)), (q49, .inl (g.2 0, 497, .inl f51)), (q48, .inl (g.2 0, 497, .inl f50)), (q1, .inr (12, [.ref q48, w12, .ref q49, w14, .ref q71, .int 0, .int 0, .ref q54, .ref q55, w20, w21, w22, w23, w24, w25, w26, w27, w28, w29, w30, w31, w32, w33, w34, w35, w36, w37, w38, w39, w40, w41, w42, w43, w44, w45, w46, w47]))]) hx hb hown hE hP hD hS 5 rfl rfl rfl (Nat.le_of_ble_eq_true rfl) dX10_added_30 rfl (fun H locs hP hD hS => ?_)
  refine lv_aload_n hx hb dX10_added_33 rfl (lv_at hl 0 rfl) ?_
  refine gf_RX10_86 hx hb hown hE hP 5 rfl rfl dX10_added_34 ?_
  refine lv_if_le (tgt := 42) hx hb dX10_added_37 (by decide) (fun _ => ?_) (fun h => absurd (by decide) h)
  refine lv_aload_n hx hb dX10_added_42 rfl (lv_at hl 0 rfl) ?_
  refine g_v (wr := [(q71, .inl (g.2 0, 3976, .inl f51)), (q55, .inl (g.2 0, 8, .inl f51)), (q54, .inl (g.2 0, 8, .inl f51))]) (rV (rest := []) hx hb hml hown hE hP hD 5 rfl rfl (c198_X10_putAside l g q1 q49 q48 w12 w14 (.ref q71) (.int 0) (.int 0) (.ref q54) (.ref q55) w20 w21 w22 w23 w24 w25 w26 w27 w28 w29 w30 w31 w32 w33 w34 w35 w36 w37 w38 w39 w40 w41 w42 w43 w44 w45 w46 w47 f50 f51 H.size) (kV_X10_putAside hE (e1437 hE) rfl rfl ⟨(Nat.le_of_ble_eq_true rfl), (Nat.le_of_ble_eq_true rfl)⟩) [3, 4, 5] rfl (by decide) rfl hl.1 rfl (lv_room (Nat.le_of_ble_eq_true rfl)) dX10_added_43 ⟨(Nat.le_of_ble_eq_true rfl), (Nat.le_of_ble_eq_true rfl)⟩) hP hD hS hA [3, 4, 5] [0, 1, 2] rfl rfl (by decide) (by decide) (fun u3 H locs hP hD hS => ?_)
  have hP : va_P g.1 vwCl [(q71, .inl (g.2 0, 3976, .inl f51)), (q55, .inl (g.2 0, 8, .inl f51)), (q54, .inl (g.2 0, 8, .inl f51)), (q49, .inl (g.2 0, 497, .inl (cpF 497 f50 f51))), (q48, .inl (g.2 0, 497, .inl f50)), (q1, .inr (12, [.ref q48, w12, .ref q49, w14, .ref q71, .int 0, .int 0, .ref q54, .ref q55, w20, w21, w22, w23, w24, w25, w26, w27, w28, w29, w30, w31, w32, w33, w34, w35, w36, w37, w38, w39, w40, w41, w42, w43, w44, w45, w46, w47]))] H := hP
  have hD : va_D A [(q71, .inl (g.2 0, 3976, .inl f51)), (q55, .inl (g.2 0, 8, .inl f51)), (q54, .inl (g.2 0, 8, .inl f51)), (q49, .inl (g.2 0, 497, .inl (cpF 497 f50 f51))), (q48, .inl (g.2 0, 497, .inl f50)), (q1, .inr (12, [.ref q48, w12, .ref q49, w14, .ref q71, .int 0, .int 0, .ref q54, .ref q55, w20, w21, w22, w23, w24, w25, w26, w27, w28, w29, w30, w31, w32, w33, w34, w35, w36, w37, w38, w39, w40, w41, w42, w43, w44, w45, w46, w47]))] := hD
  refine lv_aload_n hx hb dX10_added_46 rfl (lv_at hl 0 rfl) ?_
  refine lv_iload_n hx hb dX10_added_47 rfl (lv_at hl 1 rfl) ?_
  refine lv_iload_n hx hb dX10_added_48 rfl (lv_at hl 2 rfl) ?_
  refine lv_iload_n hx hb dX10_added_49 rfl (lv_at hl 3 rfl) ?_
  refine lv_iload hx hb dX10_added_50 (lv_at hl 4 rfl) ?_
  refine lv_iload hx hb dX10_added_52 (lv_at hl 5 rfl) ?_
  refine g_i (wr := [(q71, .inl (g.2 0, 3976, .inl f51)), (q49, .inl (g.2 0, 497, .inl (cpF 497 f50 f51)))]) (rV (rest := []) hx hb hml hown hE hP hD 5 rfl rfl (c283_X10_adds l g q1 q48 q54 q55 x2 x3 x4 w12 (.ref q49) w14 (.ref q71) (.int 0) (.int 0) w20 w21 w22 w23 w24 w25 w26 w27 w28 w29 w30 w31 w32 w33 w34 w35 w36 w37 w38 w39 w40 w41 w42 w43 w44 w45 w46 w47 f50 f51 (hf52) (hf53) (hf56) (hf57) (hf58) (hf59) (hf60) (hf61) (hf62) (hf63) (hf64) (hf65) (hf66) (hf67) (hf68) (hf69) (hf70) (i_lele h8 (by decide)) (i_lele h8 (by decide)) H.size) (kV_X10_adds hE (e1441 hE) rfl rfl ⟨(Nat.le_of_ble_eq_true rfl), (Nat.le_of_ble_eq_true rfl)⟩) [1, 2, 4, 5] rfl (by decide) rfl hl.1 rfl (lv_room (Nat.le_of_ble_eq_true rfl)) dX10_added_54 ⟨(Nat.le_of_ble_eq_true rfl), (Nat.le_of_ble_eq_true rfl)⟩) hP hD hS hA [1, 2, 4, 5] [0, 3] rfl rfl (by decide) (by decide) (fun u4 H locs hP hD hS => ?_)
  have hP : va_P g.1 vwCl [(q71, .inl (g.2 0, 3976, .inl f51)), (q49, .inl (g.2 0, 497, .inl (cpF 497 f50 f51))), (q55, .inl (g.2 0, 8, .inl (upd f51 2 1))), (q54, .inl (g.2 0, 8, .inl (upd f51 2 x3))), (q48, .inl (g.2 0, 497, .inl (upd (upd (upd (upd f50 100 x2) 101 x3) 102 x4) 98 1))), (q1, .inr (12, [.ref q48, w12, .ref q49, w14, .ref q71, .int 0, .int 0, .ref q54, .ref q55, w20, w21, w22, w23, w24, w25, w26, w27, w28, w29, w30, w31, w32, w33, w34, w35, w36, w37, w38, w39, w40, w41, w42, w43, w44, w45, w46, w47]))] H := hP
  have hD : va_D A [(q71, .inl (g.2 0, 3976, .inl f51)), (q49, .inl (g.2 0, 497, .inl (cpF 497 f50 f51))), (q55, .inl (g.2 0, 8, .inl (upd f51 2 1))), (q54, .inl (g.2 0, 8, .inl (upd f51 2 x3))), (q48, .inl (g.2 0, 497, .inl (upd (upd (upd (upd f50 100 x2) 101 x3) 102 x4) 98 1))), (q1, .inr (12, [.ref q48, w12, .ref q49, w14, .ref q71, .int 0, .int 0, .ref q54, .ref q55, w20, w21, w22, w23, w24, w25, w26, w27, w28, w29, w30, w31, w32, w33, w34, w35, w36, w37, w38, w39, w40, w41, w42, w43, w44, w45, w46, w47]))] := hD
  refine lv_if_ne (tgt := 70) hx hb dX10_added_57 (by decide) (fun _ => ?_) (fun h => absurd h (by decide))
  refine lv_aload_n hx hb dX10_added_70 rfl (lv_at hl 0 rfl) ?_
  refine g_v (wr := [(q55, .inl (g.2 0, 8, .inl (upd f51 2 1))), (q54, .inl (g.2 0, 8, .inl (upd f51 2 x3))), (q48, .inl (g.2 0, 497, .inl (upd (upd (upd (upd f50 100 x2) 101 x3) 102 x4) 98 1)))]) (rV (rest := []) hx hb hml hown hE hP hD 5 rfl rfl (c220_X10_keep l g q1 q71 q49 (.ref q48) w12 w14 (.int 0) (.ref q54) (.ref q55) w20 w21 w22 w23 w24 w25 w26 w27 w28 w29 w30 w31 w32 w33 w34 w35 w36 w37 w38 w39 w40 w41 w42 w43 w44 w45 w46 w47 (cpF 497 f50 f51) f51 H.size) (kV_X10_keep hE (e1478 hE) rfl rfl ⟨(Nat.le_of_ble_eq_true rfl), (Nat.le_of_ble_eq_true rfl)⟩) [0, 1, 5] rfl (by decide) rfl hl.1 rfl (lv_room (Nat.le_of_ble_eq_true rfl)) dX10_added_71 ⟨(Nat.le_of_ble_eq_true rfl), (Nat.le_of_ble_eq_true rfl)⟩) hP hD hS hA [0, 1, 5] [2, 3, 4] rfl rfl (by decide) (by decide) (fun u5 H locs hP hD hS => ?_)
  have hP : va_P g.1 vwCl [(q55, .inl (g.2 0, 8, .inl (upd f51 2 1))), (q54, .inl (g.2 0, 8, .inl (upd f51 2 x3))), (q48, .inl (g.2 0, 497, .inl (upd (upd (upd (upd f50 100 x2) 101 x3) 102 x4) 98 1))), (q71, .inl (g.2 0, 3976, .inl (cpF 497 (cpF 497 f50 f51) f51))), (q49, .inl (g.2 0, 497, .inl (cpF 497 f50 f51))), (q1, .inr (12, [.ref q48, w12, .ref q49, w14, .ref q71, .int 1, .int 0, .ref q54, .ref q55, w20, w21, w22, w23, w24, w25, w26, w27, w28, w29, w30, w31, w32, w33, w34, w35, w36, w37, w38, w39, w40, w41, w42, w43, w44, w45, w46, w47]))] H := hP
  have hD : va_D A [(q55, .inl (g.2 0, 8, .inl (upd f51 2 1))), (q54, .inl (g.2 0, 8, .inl (upd f51 2 x3))), (q48, .inl (g.2 0, 497, .inl (upd (upd (upd (upd f50 100 x2) 101 x3) 102 x4) 98 1))), (q71, .inl (g.2 0, 3976, .inl (cpF 497 (cpF 497 f50 f51) f51))), (q49, .inl (g.2 0, 497, .inl (cpF 497 f50 f51))), (q1, .inr (12, [.ref q48, w12, .ref q49, w14, .ref q71, .int 1, .int 0, .ref q54, .ref q55, w20, w21, w22, w23, w24, w25, w26, w27, w28, w29, w30, w31, w32, w33, w34, w35, w36, w37, w38, w39, w40, w41, w42, w43, w44, w45, w46, w47]))] := hD
  refine lv_aload_n hx hb dX10_added_74 rfl (lv_at hl 0 rfl) ?_
  refine lv_iload_n hx hb dX10_added_75 rfl (lv_at hl 1 rfl) ?_
  refine g_i (wr := [(q55, .inl (g.2 0, 8, .inl (upd f51 2 1))), (q54, .inl (g.2 0, 8, .inl (upd f51 2 x3))), (q71, .inl (g.2 0, 3976, .inl (cpF 497 (cpF 497 f50 f51) f51))), (q49, .inl (g.2 0, 497, .inl (cpF 497 f50 f51)))]) (rV (rest := []) hx hb hml hown hE hP hD 5 rfl rfl (c278_X10_many l g q1 q48 w12 (.ref q49) w14 (.ref q71) (.int 1) (.int 0) (.ref q54) (.ref q55) w20 w21 w22 w23 w24 w25 w26 w27 w28 w29 w30 w31 w32 w33 w34 w35 w36 w37 w38 w39 w40 w41 w42 w43 w44 w45 w46 w47 (upd (upd (upd (upd f50 100 x2) 101 x3) 102 x4) 98 1) (pk_us) H.size) (kV_X10_many hE (e1456 hE) rfl rfl ⟨(Nat.le_of_ble_eq_true rfl), (Nat.le_of_ble_eq_true rfl)⟩) [2, 5] rfl (by decide) rfl hl.1 rfl (lv_room (Nat.le_of_ble_eq_true rfl)) dX10_added_76 ⟨(Nat.le_of_ble_eq_true rfl), (Nat.le_of_ble_eq_true rfl)⟩) hP hD hS hA [2, 5] [0, 1, 3, 4] rfl rfl (by decide) (by decide) (fun u6 H locs hP hD hS => ?_)
  have hP : va_P g.1 vwCl [(q55, .inl (g.2 0, 8, .inl (upd f51 2 1))), (q54, .inl (g.2 0, 8, .inl (upd f51 2 x3))), (q71, .inl (g.2 0, 3976, .inl (cpF 497 (cpF 497 f50 f51) f51))), (q49, .inl (g.2 0, 497, .inl (cpF 497 f50 f51))), (q48, .inl (g.2 0, 497, .inl (upd (upd (upd (upd f50 100 x2) 101 x3) 102 x4) 98 1))), (q1, .inr (12, [.ref q48, w12, .ref q49, w14, .ref q71, .int 1, .int 0, .ref q54, .ref q55, w20, w21, w22, w23, w24, w25, w26, w27, w28, w29, w30, w31, w32, w33, w34, w35, w36, w37, w38, w39, w40, w41, w42, w43, w44, w45, w46, w47]))] H := hP
  have hD : va_D A [(q55, .inl (g.2 0, 8, .inl (upd f51 2 1))), (q54, .inl (g.2 0, 8, .inl (upd f51 2 x3))), (q71, .inl (g.2 0, 3976, .inl (cpF 497 (cpF 497 f50 f51) f51))), (q49, .inl (g.2 0, 497, .inl (cpF 497 f50 f51))), (q48, .inl (g.2 0, 497, .inl (upd (upd (upd (upd f50 100 x2) 101 x3) 102 x4) 98 1))), (q1, .inr (12, [.ref q48, w12, .ref q49, w14, .ref q71, .int 1, .int 0, .ref q54, .ref q55, w20, w21, w22, w23, w24, w25, w26, w27, w28, w29, w30, w31, w32, w33, w34, w35, w36, w37, w38, w39, w40, w41, w42, w43, w44, w45, w46, w47]))] := hD
  exact x_zret hx hb hr rfl rfl hlocks hP hD hS hAe hsz (Nat.le_of_ble_eq_true rfl) (Nat.le_of_ble_eq_true rfl) (fun _ => 0) [0, 1, 2, 3, 4, 5] (by decide) rfl dX10_added_79

set_option maxHeartbeats 4000000 in
set_option maxRecDepth 100000 in
theorem c285_X10_addNote (l : Launch) (g : gG) (q1 q48 q49 q54 q55 q71 : Nat) (x2 x3 x4 : Int32) (w6 w8 w11 w14 w15 w16 w17 w18 w19 w20 w21 w22 w23 w24 w25 w26 w27 w28 w29 w30 w31 w32 w33 w34 w35 w36 w37 w38 w39 w40 w41 : Value) (f50 : Nat → Int32) (f51 : Nat → Int32) (hf52 : f50 98 = 0) (hf53 : f50 99 = 0) (hf56 : f50 0 = 0) (hf57 : f51 0 = 0) (hf58 : f50 49 = 0) (hf59 : f51 1 = 0) (hf60 : f50 147 = 0) (hf61 : f51 3 = 0) (hf62 : f50 196 = 0) (hf63 : f51 4 = 0) (hf64 : f50 245 = 0) (hf65 : f51 5 = 0) (hf66 : f50 294 = 0) (hf67 : f51 6 = 0) (hf68 : f50 343 = 0) (hf69 : f51 7 = 0) (hf70 : f50 392 = 0) (h42 : (0 : Int32) ≤ x2) (h43 : x2 ≤ 99) (h44 : (1 : Int32) ≤ x3) (h45 : x3 ≤ 16) (h46 : (1 : Int32) ≤ x4) (h47 : x4 ≤ 9) (sz : Nat) : Met l yX10_addNote [Cond.code yX10_addNote cX10_addNote 5 (some .int)] ({ frames := 6, cells := 0, slots := 0, locals := 143 } : Room) (va_Pc [.ref q1, .int 2, .int x2, .int x3, .int x4] (PX g sz [(q71, .inl (g.2 0, 3976, .inl f51)), (q55, .inl (g.2 0, 8, .inl f51)), (q54, .inl (g.2 0, 8, .inl f51)), (q49, .inl (g.2 0, 497, .inl f51)), (q48, .inl (g.2 0, 497, .inl f50)), (q1, .inr (12, [.ref q48, w6, .ref q49, w8, .ref q71, .int 0, w11, .ref q54, .ref q55, w14, w15, w16, w17, w18, w19, w20, w21, w22, w23, w24, w25, w26, w27, w28, w29, w30, w31, w32, w33, w34, w35, w36, w37, w38, w39, w40, w41]))])) (QI g [(q71, .inl (g.2 0, 3976, .inl f51)), (q55, .inl (g.2 0, 8, .inl f51)), (q54, .inl (g.2 0, 8, .inl f51)), (q49, .inl (g.2 0, 497, .inl f51)), (q48, .inl (g.2 0, 497, .inl f50)), (q1, .inr (12, [.ref q48, w6, .ref q49, w8, .ref q71, .int 0, w11, .ref q54, .ref q55, w14, w15, w16, w17, w18, w19, w20, w21, w22, w23, w24, w25, w26, w27, w28, w29, w30, w31, w32, w33, w34, w35, w36, w37, w38, w39, w40, w41]))] sz 1 (fun _ => [(q1, .inr (12, [.ref q48, w6, .ref q49, w8, .ref q71, .int 1, .int 0, .ref q54, .ref q55, w14, w15, w16, w17, w18, w19, w20, w21, w22, w23, w24, w25, w26, w27, w28, w29, w30, w31, w32, w33, w34, w35, w36, w37, w38, w39, w40, w41]))])) 0 0 (va_A [(q71, .inl (g.2 0, 3976, .inl f51)), (q55, .inl (g.2 0, 8, .inl f51)), (q54, .inl (g.2 0, 8, .inl f51)), (q49, .inl (g.2 0, 497, .inl f51)), (q48, .inl (g.2 0, 497, .inl f50)), (q1, .inr (12, [.ref q48, w6, .ref q49, w8, .ref q71, .int 0, w11, .ref q54, .ref q55, w14, w15, w16, w17, w18, w19, w20, w21, w22, w23, w24, w25, w26, w27, w28, w29, w30, w31, w32, w33, w34, w35, w36, w37, w38, w39, w40, w41]))] sz) := by
  refine ofN (by decide) (Nat.le_of_ble_eq_true rfl) rfl ?_
  intro p e s m args below meth c A ls hAe hsz hx hb hml hr hlocks hin hown hE hP hD hA hS hl
  have hown : s.vm.findClass RX10 = some m.cls := hown
  refine lv_aload_n hx hb dX10_addNote_0 rfl (lv_at hl 0 rfl) ?_
  refine lv_iload_n hx hb dX10_addNote_1 rfl (lv_at hl 1 rfl) ?_
  refine lv_iconst (v := 0) hx hb dX10_addNote_2 (by decide) ?_
  refine lv_iload_n hx hb dX10_addNote_3 rfl (lv_at hl 2 rfl) ?_
  refine lv_iload_n hx hb dX10_addNote_4 rfl (lv_at hl 3 rfl) ?_
  refine lv_iload hx hb dX10_addNote_5 (lv_at hl 4 rfl) ?_
  refine g_i (wr := []) (rV (rest := []) hx hb hml hown hE hP hD 5 rfl rfl (c284_X10_added l g q1 q48 q49 q54 q55 q71 x2 x3 x4 w6 w8 w11 w14 w15 w16 w17 w18 w19 w20 w21 w22 w23 w24 w25 w26 w27 w28 w29 w30 w31 w32 w33 w34 w35 w36 w37 w38 w39 w40 w41 f50 f51 (hf52) (hf53) (hf56) (hf57) (hf58) (hf59) (hf60) (hf61) (hf62) (hf63) (hf64) (hf65) (hf66) (hf67) (hf68) (hf69) (hf70) h42 h43 h44 h45 h46 h47 s.heap.size) (kV_X10_added hE (e1424 hE) rfl rfl ⟨(Nat.le_of_ble_eq_true rfl), (Nat.le_of_ble_eq_true rfl)⟩) [0, 1, 2, 3, 4, 5] rfl (by decide) rfl hl.1 rfl (lv_room (Nat.le_of_ble_eq_true rfl)) dX10_addNote_7 ⟨(Nat.le_of_ble_eq_true rfl), (Nat.le_of_ble_eq_true rfl)⟩) hP hD hS hA [0, 1, 2, 3, 4, 5] [] rfl rfl (by decide) (by decide) (fun u1 H locs hP hD hS => ?_)
  have hP : va_P g.1 vwCl [(q55, .inl (g.2 0, 8, .inl (upd f51 2 1))), (q54, .inl (g.2 0, 8, .inl (upd f51 2 x3))), (q71, .inl (g.2 0, 3976, .inl (cpF 497 (cpF 497 f50 f51) f51))), (q49, .inl (g.2 0, 497, .inl (cpF 497 f50 f51))), (q48, .inl (g.2 0, 497, .inl (upd (upd (upd (upd f50 100 x2) 101 x3) 102 x4) 98 1))), (q1, .inr (12, [.ref q48, w6, .ref q49, w8, .ref q71, .int 1, .int 0, .ref q54, .ref q55, w14, w15, w16, w17, w18, w19, w20, w21, w22, w23, w24, w25, w26, w27, w28, w29, w30, w31, w32, w33, w34, w35, w36, w37, w38, w39, w40, w41]))] H := hP
  have hD : va_D A [(q55, .inl (g.2 0, 8, .inl (upd f51 2 1))), (q54, .inl (g.2 0, 8, .inl (upd f51 2 x3))), (q71, .inl (g.2 0, 3976, .inl (cpF 497 (cpF 497 f50 f51) f51))), (q49, .inl (g.2 0, 497, .inl (cpF 497 f50 f51))), (q48, .inl (g.2 0, 497, .inl (upd (upd (upd (upd f50 100 x2) 101 x3) 102 x4) 98 1))), (q1, .inr (12, [.ref q48, w6, .ref q49, w8, .ref q71, .int 1, .int 0, .ref q54, .ref q55, w14, w15, w16, w17, w18, w19, w20, w21, w22, w23, w24, w25, w26, w27, w28, w29, w30, w31, w32, w33, w34, w35, w36, w37, w38, w39, w40, w41]))] := hD
  exact x_zret hx hb hr rfl rfl hlocks hP hD hS hAe hsz (Nat.le_of_ble_eq_true rfl) (Nat.le_of_ble_eq_true rfl) (fun _ => 0) [5] (by decide) rfl dX10_addNote_10

set_option maxHeartbeats 4000000 in
set_option maxRecDepth 100000 in
theorem c286_X9_putAt (l : Launch) (g : gG) (q1 : Nat) (f2 : Nat → Int32) (hf3 : f2 144 = 0) (sz : Nat) : Met l yX9_putAt [Cond.code yX9_putAt cX9_putAt 3 none] ({ frames := 0, cells := 0, slots := 0, locals := 0 } : Room) (va_Pc [.ref q1, .int 144, .int 0] (PX g sz [(q1, .inl (g.2 0, 384, .inl f2))])) (QV g [(q1, .inl (g.2 0, 384, .inl f2))] sz (fun _ => [(q1, .inl (g.2 0, 384, .inl f2))])) 0 0 (va_A [(q1, .inl (g.2 0, 384, .inl f2))] sz) := by
  refine ofN (by decide) (Nat.le_of_ble_eq_true rfl) rfl ?_
  intro p e s m args below meth c A ls hAe hsz hx hb hml hr hlocks hin hown hE hP hD hA hS hl
  have hown : s.vm.findClass RX9 = some m.cls := hown
  refine lv_iload_n hx hb dX9_putAt_0 rfl (lv_at hl 1 rfl) ?_
  refine lv_if_lt (tgt := 14) hx hb dX9_putAt_1 (by decide) (fun h => absurd h (by decide)) (fun _ => ?_)
  refine lv_iload_n hx hb dX9_putAt_4 rfl (lv_at hl 1 rfl) ?_
  refine lv_aload_n hx hb dX9_putAt_5 rfl (lv_at hl 0 rfl) ?_
  refine x_aleni (v := 384) hx hb hE hP 0 rfl rfl dX9_putAt_6 ?_
  refine lv_icmp_ge (tgt := 14) hx hb dX9_putAt_7 (by decide) (fun h => absurd h (by decide)) (fun _ => ?_)
  refine lv_aload_n hx hb dX9_putAt_10 rfl (lv_at hl 0 rfl) ?_
  refine lv_iload_n hx hb dX9_putAt_11 rfl (lv_at hl 1 rfl) ?_
  refine lv_iload_n hx hb dX9_putAt_12 rfl (lv_at hl 2 rfl) ?_
  refine x_iast_same hx hb hE hP hD hS 0 rfl 144 (x_in (by decide)) (by decide) hf3 dX9_putAt_13 (fun H locs hP hD hS => ?_)
  exact x_vret hx hb hr hlocks hP hD hS hAe hsz (Nat.le_of_ble_eq_true rfl) (Nat.le_of_ble_eq_true rfl) (fun _ => 0) [0] (by decide) rfl dX9_putAt_14

set_option maxHeartbeats 4000000 in
set_option maxRecDepth 100000 in
theorem c287_X9_putAt (l : Launch) (g : gG) (q1 : Nat) (x2 : Int32) (f3 : Nat → Int32) (sz : Nat) : Met l yX9_putAt [Cond.code yX9_putAt cX9_putAt 3 none] ({ frames := 0, cells := 0, slots := 0, locals := 0 } : Room) (va_Pc [.ref q1, .int 145, .int x2] (PX g sz [(q1, .inl (g.2 0, 384, .inl f3))])) (QV g [(q1, .inl (g.2 0, 384, .inl f3))] sz (fun _ => [(q1, .inl (g.2 0, 384, .inl (upd f3 145 x2)))])) 0 0 (va_A [(q1, .inl (g.2 0, 384, .inl f3))] sz) := by
  refine ofN (by decide) (Nat.le_of_ble_eq_true rfl) rfl ?_
  intro p e s m args below meth c A ls hAe hsz hx hb hml hr hlocks hin hown hE hP hD hA hS hl
  have hown : s.vm.findClass RX9 = some m.cls := hown
  refine lv_iload_n hx hb dX9_putAt_0 rfl (lv_at hl 1 rfl) ?_
  refine lv_if_lt (tgt := 14) hx hb dX9_putAt_1 (by decide) (fun h => absurd h (by decide)) (fun _ => ?_)
  refine lv_iload_n hx hb dX9_putAt_4 rfl (lv_at hl 1 rfl) ?_
  refine lv_aload_n hx hb dX9_putAt_5 rfl (lv_at hl 0 rfl) ?_
  refine x_aleni (v := 384) hx hb hE hP 0 rfl rfl dX9_putAt_6 ?_
  refine lv_icmp_ge (tgt := 14) hx hb dX9_putAt_7 (by decide) (fun h => absurd h (by decide)) (fun _ => ?_)
  refine lv_aload_n hx hb dX9_putAt_10 rfl (lv_at hl 0 rfl) ?_
  refine lv_iload_n hx hb dX9_putAt_11 rfl (lv_at hl 1 rfl) ?_
  refine lv_iload_n hx hb dX9_putAt_12 rfl (lv_at hl 2 rfl) ?_
  refine x_iast (ws' := [(q1, .inl (g.2 0, 384, .inl (upd f3 145 x2)))]) hx hb hE hP hD hS 0 rfl 145 (x_in (by decide)) (by decide) dX9_putAt_13 rfl (fun H locs hP hD hS => ?_)
  exact x_vret hx hb hr hlocks hP hD hS hAe hsz (Nat.le_of_ble_eq_true rfl) (Nat.le_of_ble_eq_true rfl) (fun _ => 0) [0] (by decide) rfl dX9_putAt_14

set_option maxHeartbeats 4000000 in
set_option maxRecDepth 100000 in
theorem c288_X9_putAt (l : Launch) (g : gG) (q1 : Nat) (x2 : Int32) (f3 : Nat → Int32) (sz : Nat) : Met l yX9_putAt [Cond.code yX9_putAt cX9_putAt 3 none] ({ frames := 0, cells := 0, slots := 0, locals := 0 } : Room) (va_Pc [.ref q1, .int 146, .int x2] (PX g sz [(q1, .inl (g.2 0, 384, .inl f3))])) (QV g [(q1, .inl (g.2 0, 384, .inl f3))] sz (fun _ => [(q1, .inl (g.2 0, 384, .inl (upd f3 146 x2)))])) 0 0 (va_A [(q1, .inl (g.2 0, 384, .inl f3))] sz) := by
  refine ofN (by decide) (Nat.le_of_ble_eq_true rfl) rfl ?_
  intro p e s m args below meth c A ls hAe hsz hx hb hml hr hlocks hin hown hE hP hD hA hS hl
  have hown : s.vm.findClass RX9 = some m.cls := hown
  refine lv_iload_n hx hb dX9_putAt_0 rfl (lv_at hl 1 rfl) ?_
  refine lv_if_lt (tgt := 14) hx hb dX9_putAt_1 (by decide) (fun h => absurd h (by decide)) (fun _ => ?_)
  refine lv_iload_n hx hb dX9_putAt_4 rfl (lv_at hl 1 rfl) ?_
  refine lv_aload_n hx hb dX9_putAt_5 rfl (lv_at hl 0 rfl) ?_
  refine x_aleni (v := 384) hx hb hE hP 0 rfl rfl dX9_putAt_6 ?_
  refine lv_icmp_ge (tgt := 14) hx hb dX9_putAt_7 (by decide) (fun h => absurd h (by decide)) (fun _ => ?_)
  refine lv_aload_n hx hb dX9_putAt_10 rfl (lv_at hl 0 rfl) ?_
  refine lv_iload_n hx hb dX9_putAt_11 rfl (lv_at hl 1 rfl) ?_
  refine lv_iload_n hx hb dX9_putAt_12 rfl (lv_at hl 2 rfl) ?_
  refine x_iast (ws' := [(q1, .inl (g.2 0, 384, .inl (upd f3 146 x2)))]) hx hb hE hP hD hS 0 rfl 146 (x_in (by decide)) (by decide) dX9_putAt_13 rfl (fun H locs hP hD hS => ?_)
  exact x_vret hx hb hr hlocks hP hD hS hAe hsz (Nat.le_of_ble_eq_true rfl) (Nat.le_of_ble_eq_true rfl) (fun _ => 0) [0] (by decide) rfl dX9_putAt_14

set_option maxHeartbeats 4000000 in
set_option maxRecDepth 100000 in
theorem c289_X9_putAt (l : Launch) (g : gG) (q1 : Nat) (x2 : Int32) (f3 : Nat → Int32) (sz : Nat) : Met l yX9_putAt [Cond.code yX9_putAt cX9_putAt 3 none] ({ frames := 0, cells := 0, slots := 0, locals := 0 } : Room) (va_Pc [.ref q1, .int 147, .int x2] (PX g sz [(q1, .inl (g.2 0, 384, .inl f3))])) (QV g [(q1, .inl (g.2 0, 384, .inl f3))] sz (fun _ => [(q1, .inl (g.2 0, 384, .inl (upd f3 147 x2)))])) 0 0 (va_A [(q1, .inl (g.2 0, 384, .inl f3))] sz) := by
  refine ofN (by decide) (Nat.le_of_ble_eq_true rfl) rfl ?_
  intro p e s m args below meth c A ls hAe hsz hx hb hml hr hlocks hin hown hE hP hD hA hS hl
  have hown : s.vm.findClass RX9 = some m.cls := hown
  refine lv_iload_n hx hb dX9_putAt_0 rfl (lv_at hl 1 rfl) ?_
  refine lv_if_lt (tgt := 14) hx hb dX9_putAt_1 (by decide) (fun h => absurd h (by decide)) (fun _ => ?_)
  refine lv_iload_n hx hb dX9_putAt_4 rfl (lv_at hl 1 rfl) ?_
  refine lv_aload_n hx hb dX9_putAt_5 rfl (lv_at hl 0 rfl) ?_
  refine x_aleni (v := 384) hx hb hE hP 0 rfl rfl dX9_putAt_6 ?_
  refine lv_icmp_ge (tgt := 14) hx hb dX9_putAt_7 (by decide) (fun h => absurd h (by decide)) (fun _ => ?_)
  refine lv_aload_n hx hb dX9_putAt_10 rfl (lv_at hl 0 rfl) ?_
  refine lv_iload_n hx hb dX9_putAt_11 rfl (lv_at hl 1 rfl) ?_
  refine lv_iload_n hx hb dX9_putAt_12 rfl (lv_at hl 2 rfl) ?_
  refine x_iast (ws' := [(q1, .inl (g.2 0, 384, .inl (upd f3 147 x2)))]) hx hb hE hP hD hS 0 rfl 147 (x_in (by decide)) (by decide) dX9_putAt_13 rfl (fun H locs hP hD hS => ?_)
  exact x_vret hx hb hr hlocks hP hD hS hAe hsz (Nat.le_of_ble_eq_true rfl) (Nat.le_of_ble_eq_true rfl) (fun _ => 0) [0] (by decide) rfl dX9_putAt_14

set_option maxHeartbeats 4000000 in
set_option maxRecDepth 100000 in
theorem c290_X3_putFigure (l : Launch) (g : gG) (q1 q4 : Nat) (w2 : Value) (f5 : Nat → Int32) (sz : Nat) : Met l yX3_putFigure [Cond.code yX3_putFigure cX3_putFigure 5 none] ({ frames := 0, cells := 0, slots := 0, locals := 0 } : Room) (va_Pc [.ref q1, .int 3, .int 0, .int 1] (PX g sz [(q4, .inl (g.2 0, 40, .inl f5)), (q1, .inr (5, [w2, .ref q4]))])) (QV g [(q4, .inl (g.2 0, 40, .inl f5)), (q1, .inr (5, [w2, .ref q4]))] sz (fun _ => [(q4, .inl (g.2 0, 40, .inl (upd f5 15 1))), (q1, .inr (5, [w2, .ref q4]))])) 0 0 (va_A [(q4, .inl (g.2 0, 40, .inl f5)), (q1, .inr (5, [w2, .ref q4]))] sz) := by
  refine ofN (by decide) (Nat.le_of_ble_eq_true rfl) rfl ?_
  intro p e s m args below meth c A ls hAe hsz hx hb hml hr hlocks hin hown hE hP hD hA hS hl
  have hown : s.vm.findClass RX3 = some m.cls := hown
  refine lv_iload_n hx hb dX3_putFigure_0 rfl (lv_at hl 1 rfl) ?_
  refine lv_iconst (v := 5) hx hb dX3_putFigure_1 (by decide) ?_
  refine x_imul (v := 15) hx hb dX3_putFigure_2 (by decide) ?_
  refine lv_iload_n hx hb dX3_putFigure_3 rfl (lv_at hl 2 rfl) ?_
  refine x_iadd (v := 15) hx hb dX3_putFigure_4 (by decide) ?_
  refine lv_istore (lv' := [(4, .int 15), (0, .ref q1), (1, .int 3), (2, .int 0), (3, .int 1)]) hx hb dX3_putFigure_5 hl (by decide) rfl (fun ls hl => ?_)
  refine lv_iload hx hb dX3_putFigure_7 (lv_at hl 0 rfl) ?_
  refine lv_if_lt (tgt := 30) hx hb dX3_putFigure_9 (by decide) (fun h => absurd h (by decide)) (fun _ => ?_)
  refine lv_iload hx hb dX3_putFigure_12 (lv_at hl 0 rfl) ?_
  refine lv_aload_n hx hb dX3_putFigure_14 rfl (lv_at hl 1 rfl) ?_
  refine gf_RX3_15 hx hb hown hE hP 1 rfl rfl dX3_putFigure_15 ?_
  refine x_aleni (v := 40) hx hb hE hP 0 rfl rfl dX3_putFigure_18 ?_
  refine lv_icmp_ge (tgt := 30) hx hb dX3_putFigure_19 (by decide) (fun h => absurd h (by decide)) (fun _ => ?_)
  refine lv_aload_n hx hb dX3_putFigure_22 rfl (lv_at hl 1 rfl) ?_
  refine gf_RX3_15 hx hb hown hE hP 1 rfl rfl dX3_putFigure_23 ?_
  refine lv_iload hx hb dX3_putFigure_26 (lv_at hl 0 rfl) ?_
  refine lv_iload_n hx hb dX3_putFigure_28 rfl (lv_at hl 4 rfl) ?_
  refine x_iast (ws' := [(q4, .inl (g.2 0, 40, .inl (upd f5 15 1))), (q1, .inr (5, [w2, .ref q4]))]) hx hb hE hP hD hS 0 rfl 15 (x_in (by decide)) (by decide) dX3_putFigure_29 rfl (fun H locs hP hD hS => ?_)
  exact x_vret hx hb hr hlocks hP hD hS hAe hsz (Nat.le_of_ble_eq_true rfl) (Nat.le_of_ble_eq_true rfl) (fun _ => 0) [0, 1] (by decide) rfl dX3_putFigure_30

set_option maxHeartbeats 4000000 in
set_option maxRecDepth 100000 in
theorem c291_X3_putItem (l : Launch) (g : gG) (q1 q7 q10 : Nat) (x2 x3 x4 : Int32) (f8 : Nat → Int32) (f11 : Nat → Int32) (hf9 : f8 15 = 0) (hf12 : f11 144 = 0) (sz : Nat) : Met l yX3_putItem [Cond.code yX3_putItem cX3_putItem 8 none] ({ frames := 1, cells := 0, slots := 0, locals := 24 } : Room) (va_Pc [.ref q1, .int 3, .int 0, .int x2, .int x3, .int x4] (PX g sz [(q10, .inl (g.2 0, 384, .inl f11)), (q7, .inl (g.2 0, 40, .inl f8)), (q1, .inr (5, [.ref q10, .ref q7]))])) (QV g [(q10, .inl (g.2 0, 384, .inl f11)), (q7, .inl (g.2 0, 40, .inl f8)), (q1, .inr (5, [.ref q10, .ref q7]))] sz (fun _ => [(q10, .inl (g.2 0, 384, .inl (upd (upd (upd f11 145 x2) 146 x3) 147 x4))), (q7, .inl (g.2 0, 40, .inl (upd f8 15 1))), (q1, .inr (5, [.ref q10, .ref q7]))])) 0 0 (va_A [(q10, .inl (g.2 0, 384, .inl f11)), (q7, .inl (g.2 0, 40, .inl f8)), (q1, .inr (5, [.ref q10, .ref q7]))] sz) := by
  refine ofN (by decide) (Nat.le_of_ble_eq_true rfl) rfl ?_
  intro p e s m args below meth c A ls hAe hsz hx hb hml hr hlocks hin hown hE hP hD hA hS hl
  have hown : s.vm.findClass RX3 = some m.cls := hown
  refine lv_aload_n hx hb dX3_putItem_0 rfl (lv_at hl 0 rfl) ?_
  refine lv_iload_n hx hb dX3_putItem_1 rfl (lv_at hl 1 rfl) ?_
  refine lv_iconst (v := 0) hx hb dX3_putItem_2 (by decide) ?_
  refine g_i (wr := [(q10, .inl (g.2 0, 384, .inl f11))]) (rV (rest := []) hx hb hml hown hE hP hD 2 rfl rfl (c158_X3_figure l g q1 q7 (.ref q10) f8 (hf9) s.heap.size) (kV_X3_figure hE (e343 hE) rfl rfl ⟨(Nat.le_of_ble_eq_true rfl), (Nat.le_of_ble_eq_true rfl)⟩) [1, 2] rfl (by decide) rfl hl.1 rfl (lv_room (Nat.le_of_ble_eq_true rfl)) dX3_putItem_3 ⟨(Nat.le_of_ble_eq_true rfl), (Nat.le_of_ble_eq_true rfl)⟩) hP hD hS hA [1, 2] [0] rfl rfl (by decide) (by decide) (fun u1 H locs hP hD hS => ?_)
  have hP : va_P g.1 vwCl [(q10, .inl (g.2 0, 384, .inl f11)), (q7, .inl (g.2 0, 40, .inl f8)), (q1, .inr (5, [.ref q10, .ref q7]))] H := hP
  have hD : va_D A [(q10, .inl (g.2 0, 384, .inl f11)), (q7, .inl (g.2 0, 40, .inl f8)), (q1, .inr (5, [.ref q10, .ref q7]))] := hD
  refine lv_istore (lv' := [(6, .int 0), (0, .ref q1), (1, .int 3), (2, .int 0), (3, .int x2), (4, .int x3), (5, .int x4)]) hx hb dX3_putItem_6 hl (by decide) rfl (fun ls hl => ?_)
  refine lv_iload_n hx hb dX3_putItem_8 rfl (lv_at hl 2 rfl) ?_
  refine lv_bipush (v := 12) hx hb dX3_putItem_9 (by decide) ?_
  refine x_imul (v := 36) hx hb dX3_putItem_11 (by decide) ?_
  refine lv_iload hx hb dX3_putItem_12 (lv_at hl 0 rfl) ?_
  refine x_iadd (v := 36) hx hb dX3_putItem_14 (by decide) ?_
  refine lv_iconst (v := 4) hx hb dX3_putItem_15 (by decide) ?_
  refine x_imul (v := 144) hx hb dX3_putItem_16 (by decide) ?_
  refine lv_istore (lv' := [(7, .int 144), (6, .int 0), (0, .ref q1), (1, .int 3), (2, .int 0), (3, .int x2), (4, .int x3), (5, .int x4)]) hx hb dX3_putItem_17 hl (by decide) rfl (fun ls hl => ?_)
  refine lv_aload_n hx hb dX3_putItem_19 rfl (lv_at hl 2 rfl) ?_
  refine gf_RX3_9 hx hb hown hE hP 2 rfl rfl dX3_putItem_20 ?_
  refine lv_iload hx hb dX3_putItem_23 (lv_at hl 0 rfl) ?_
  refine lv_iconst (v := 0) hx hb dX3_putItem_25 (by decide) ?_
  refine x_iadd (v := 144) hx hb dX3_putItem_26 (by decide) ?_
  refine lv_iload_n hx hb dX3_putItem_27 rfl (lv_at hl 4 rfl) ?_
  refine g_v (wr := [(q7, .inl (g.2 0, 40, .inl f8)), (q1, .inr (5, [.ref q10, .ref q7]))]) (rSN (rest := []) hx hb hml hown hE hP hD (c286_X9_putAt l g q10 f11 (hf12) H.size) (kSN_X9_putAt hE (e689 hE) rfl rfl ⟨(Nat.le_of_ble_eq_true rfl), (Nat.le_of_ble_eq_true rfl)⟩) [0] rfl (by decide) rfl hl.1 rfl (lv_room (Nat.le_of_ble_eq_true rfl)) dX3_putItem_28 ⟨(Nat.le_of_ble_eq_true rfl), (Nat.le_of_ble_eq_true rfl)⟩) hP hD hS hA [0] [1, 2] rfl rfl (by decide) (by decide) (fun u2 H locs hP hD hS => ?_)
  have hP : va_P g.1 vwCl [(q7, .inl (g.2 0, 40, .inl f8)), (q1, .inr (5, [.ref q10, .ref q7])), (q10, .inl (g.2 0, 384, .inl f11))] H := hP
  have hD : va_D A [(q7, .inl (g.2 0, 40, .inl f8)), (q1, .inr (5, [.ref q10, .ref q7])), (q10, .inl (g.2 0, 384, .inl f11))] := hD
  refine lv_aload_n hx hb dX3_putItem_31 rfl (lv_at hl 2 rfl) ?_
  refine gf_RX3_9 hx hb hown hE hP 1 rfl rfl dX3_putItem_32 ?_
  refine lv_iload hx hb dX3_putItem_35 (lv_at hl 0 rfl) ?_
  refine lv_iconst (v := 1) hx hb dX3_putItem_37 (by decide) ?_
  refine x_iadd (v := 145) hx hb dX3_putItem_38 (by decide) ?_
  refine lv_iload_n hx hb dX3_putItem_39 rfl (lv_at hl 5 rfl) ?_
  refine g_v (wr := [(q7, .inl (g.2 0, 40, .inl f8)), (q1, .inr (5, [.ref q10, .ref q7]))]) (rSN (rest := []) hx hb hml hown hE hP hD (c287_X9_putAt l g q10 x2 f11 H.size) (kSN_X9_putAt hE (e689 hE) rfl rfl ⟨(Nat.le_of_ble_eq_true rfl), (Nat.le_of_ble_eq_true rfl)⟩) [2] rfl (by decide) rfl hl.1 rfl (lv_room (Nat.le_of_ble_eq_true rfl)) dX3_putItem_40 ⟨(Nat.le_of_ble_eq_true rfl), (Nat.le_of_ble_eq_true rfl)⟩) hP hD hS hA [2] [0, 1] rfl rfl (by decide) (by decide) (fun u3 H locs hP hD hS => ?_)
  have hP : va_P g.1 vwCl [(q7, .inl (g.2 0, 40, .inl f8)), (q1, .inr (5, [.ref q10, .ref q7])), (q10, .inl (g.2 0, 384, .inl (upd f11 145 x2)))] H := hP
  have hD : va_D A [(q7, .inl (g.2 0, 40, .inl f8)), (q1, .inr (5, [.ref q10, .ref q7])), (q10, .inl (g.2 0, 384, .inl (upd f11 145 x2)))] := hD
  refine lv_aload_n hx hb dX3_putItem_43 rfl (lv_at hl 2 rfl) ?_
  refine gf_RX3_9 hx hb hown hE hP 1 rfl rfl dX3_putItem_44 ?_
  refine lv_iload hx hb dX3_putItem_47 (lv_at hl 0 rfl) ?_
  refine lv_iconst (v := 2) hx hb dX3_putItem_49 (by decide) ?_
  refine x_iadd (v := 146) hx hb dX3_putItem_50 (by decide) ?_
  refine lv_iload hx hb dX3_putItem_51 (lv_at hl 6 rfl) ?_
  refine g_v (wr := [(q7, .inl (g.2 0, 40, .inl f8)), (q1, .inr (5, [.ref q10, .ref q7]))]) (rSN (rest := []) hx hb hml hown hE hP hD (c288_X9_putAt l g q10 x3 (upd f11 145 x2) H.size) (kSN_X9_putAt hE (e689 hE) rfl rfl ⟨(Nat.le_of_ble_eq_true rfl), (Nat.le_of_ble_eq_true rfl)⟩) [2] rfl (by decide) rfl hl.1 rfl (lv_room (Nat.le_of_ble_eq_true rfl)) dX3_putItem_53 ⟨(Nat.le_of_ble_eq_true rfl), (Nat.le_of_ble_eq_true rfl)⟩) hP hD hS hA [2] [0, 1] rfl rfl (by decide) (by decide) (fun u4 H locs hP hD hS => ?_)
  have hP : va_P g.1 vwCl [(q7, .inl (g.2 0, 40, .inl f8)), (q1, .inr (5, [.ref q10, .ref q7])), (q10, .inl (g.2 0, 384, .inl (upd (upd f11 145 x2) 146 x3)))] H := hP
  have hD : va_D A [(q7, .inl (g.2 0, 40, .inl f8)), (q1, .inr (5, [.ref q10, .ref q7])), (q10, .inl (g.2 0, 384, .inl (upd (upd f11 145 x2) 146 x3)))] := hD
  refine lv_aload_n hx hb dX3_putItem_56 rfl (lv_at hl 2 rfl) ?_
  refine gf_RX3_9 hx hb hown hE hP 1 rfl rfl dX3_putItem_57 ?_
  refine lv_iload hx hb dX3_putItem_60 (lv_at hl 0 rfl) ?_
  refine lv_iconst (v := 3) hx hb dX3_putItem_62 (by decide) ?_
  refine x_iadd (v := 147) hx hb dX3_putItem_63 (by decide) ?_
  refine lv_iload hx hb dX3_putItem_64 (lv_at hl 7 rfl) ?_
  refine g_v (wr := [(q7, .inl (g.2 0, 40, .inl f8)), (q1, .inr (5, [.ref q10, .ref q7]))]) (rSN (rest := []) hx hb hml hown hE hP hD (c289_X9_putAt l g q10 x4 (upd (upd f11 145 x2) 146 x3) H.size) (kSN_X9_putAt hE (e689 hE) rfl rfl ⟨(Nat.le_of_ble_eq_true rfl), (Nat.le_of_ble_eq_true rfl)⟩) [2] rfl (by decide) rfl hl.1 rfl (lv_room (Nat.le_of_ble_eq_true rfl)) dX3_putItem_66 ⟨(Nat.le_of_ble_eq_true rfl), (Nat.le_of_ble_eq_true rfl)⟩) hP hD hS hA [2] [0, 1] rfl rfl (by decide) (by decide) (fun u5 H locs hP hD hS => ?_)
  have hP : va_P g.1 vwCl [(q7, .inl (g.2 0, 40, .inl f8)), (q1, .inr (5, [.ref q10, .ref q7])), (q10, .inl (g.2 0, 384, .inl (upd (upd (upd f11 145 x2) 146 x3) 147 x4)))] H := hP
  have hD : va_D A [(q7, .inl (g.2 0, 40, .inl f8)), (q1, .inr (5, [.ref q10, .ref q7])), (q10, .inl (g.2 0, 384, .inl (upd (upd (upd f11 145 x2) 146 x3) 147 x4)))] := hD
  refine lv_aload_n hx hb dX3_putItem_69 rfl (lv_at hl 2 rfl) ?_
  refine lv_iload_n hx hb dX3_putItem_70 rfl (lv_at hl 3 rfl) ?_
  refine lv_iconst (v := 0) hx hb dX3_putItem_71 (by decide) ?_
  refine lv_iload hx hb dX3_putItem_72 (lv_at hl 1 rfl) ?_
  refine lv_iconst (v := 1) hx hb dX3_putItem_74 (by decide) ?_
  refine x_iadd (v := 1) hx hb dX3_putItem_75 (by decide) ?_
  refine g_v (wr := [(q10, .inl (g.2 0, 384, .inl (upd (upd (upd f11 145 x2) 146 x3) 147 x4)))]) (rV (rest := []) hx hb hml hown hE hP hD 1 rfl rfl (c290_X3_putFigure l g q1 q7 (.ref q10) f8 H.size) (kV_X3_putFigure hE (e91 hE) rfl rfl ⟨(Nat.le_of_ble_eq_true rfl), (Nat.le_of_ble_eq_true rfl)⟩) [0, 1] rfl (by decide) rfl hl.1 rfl (lv_room (Nat.le_of_ble_eq_true rfl)) dX3_putItem_76 ⟨(Nat.le_of_ble_eq_true rfl), (Nat.le_of_ble_eq_true rfl)⟩) hP hD hS hA [0, 1] [2] rfl rfl (by decide) (by decide) (fun u6 H locs hP hD hS => ?_)
  have hP : va_P g.1 vwCl [(q10, .inl (g.2 0, 384, .inl (upd (upd (upd f11 145 x2) 146 x3) 147 x4))), (q7, .inl (g.2 0, 40, .inl (upd f8 15 1))), (q1, .inr (5, [.ref q10, .ref q7]))] H := hP
  have hD : va_D A [(q10, .inl (g.2 0, 384, .inl (upd (upd (upd f11 145 x2) 146 x3) 147 x4))), (q7, .inl (g.2 0, 40, .inl (upd f8 15 1))), (q1, .inr (5, [.ref q10, .ref q7]))] := hD
  exact x_vret hx hb hr hlocks hP hD hS hAe hsz (Nat.le_of_ble_eq_true rfl) (Nat.le_of_ble_eq_true rfl) (fun _ => 0) [0, 1, 2] (by decide) rfl dX3_putItem_79

set_option maxHeartbeats 4000000 in
set_option maxRecDepth 100000 in
theorem c292_X9_putItem (l : Launch) (g : gG) (q1 q12 q15 q18 : Nat) (x2 x3 x4 : Int32) (w6 w7 w8 w9 w10 w11 : Value) (f16 : Nat → Int32) (f19 : Nat → Int32) (hf17 : f16 15 = 0) (hf20 : f19 144 = 0) (sz : Nat) : Met l yX9_putItem [Cond.code yX9_putItem cX9_putItem 6 none] ({ frames := 2, cells := 0, slots := 0, locals := 51 } : Room) (va_Pc [.ref q1, .int 3, .int 0, .int x2, .int x3, .int x4] (PX g sz [(q18, .inl (g.2 0, 384, .inl f19)), (q15, .inl (g.2 0, 40, .inl f16)), (q12, .inr (5, [.ref q18, .ref q15])), (q1, .inr (8, [.ref q12, w6, w7, w8, w9, w10, w11]))])) (QV g [(q18, .inl (g.2 0, 384, .inl f19)), (q15, .inl (g.2 0, 40, .inl f16)), (q12, .inr (5, [.ref q18, .ref q15])), (q1, .inr (8, [.ref q12, w6, w7, w8, w9, w10, w11]))] sz (fun _ => [(q1, .inr (8, [.ref q12, w6, w7, w8, w9, w10, w11])), (q18, .inl (g.2 0, 384, .inl (upd (upd (upd f19 145 x2) 146 x3) 147 x4))), (q15, .inl (g.2 0, 40, .inl (upd f16 15 1))), (q12, .inr (5, [.ref q18, .ref q15]))])) 0 0 (va_A [(q18, .inl (g.2 0, 384, .inl f19)), (q15, .inl (g.2 0, 40, .inl f16)), (q12, .inr (5, [.ref q18, .ref q15])), (q1, .inr (8, [.ref q12, w6, w7, w8, w9, w10, w11]))] sz) := by
  refine ofN (by decide) (Nat.le_of_ble_eq_true rfl) rfl ?_
  intro p e s m args below meth c A ls hAe hsz hx hb hml hr hlocks hin hown hE hP hD hA hS hl
  have hown : s.vm.findClass RX9 = some m.cls := hown
  refine lv_aload_n hx hb dX9_putItem_0 rfl (lv_at hl 0 rfl) ?_
  refine gf_RX9_108 hx hb hown hE hP 3 rfl rfl dX9_putItem_1 ?_
  refine lv_iload_n hx hb dX9_putItem_4 rfl (lv_at hl 1 rfl) ?_
  refine lv_iconst (v := 0) hx hb dX9_putItem_5 (by decide) ?_
  refine g_i (wr := [(q18, .inl (g.2 0, 384, .inl f19)), (q1, .inr (8, [.ref q12, w6, w7, w8, w9, w10, w11]))]) (rV (rest := []) hx hb hml hown hE hP hD 2 rfl rfl (c158_X3_figure l g q12 q15 (.ref q18) f16 (hf17) s.heap.size) (kV_X3_figure hE (e668 hE) rfl rfl ⟨(Nat.le_of_ble_eq_true rfl), (Nat.le_of_ble_eq_true rfl)⟩) [1, 2] rfl (by decide) rfl hl.1 rfl (lv_room (Nat.le_of_ble_eq_true rfl)) dX9_putItem_6 ⟨(Nat.le_of_ble_eq_true rfl), (Nat.le_of_ble_eq_true rfl)⟩) hP hD hS hA [1, 2] [0, 3] rfl rfl (by decide) (by decide) (fun u1 H locs hP hD hS => ?_)
  have hP : va_P g.1 vwCl [(q18, .inl (g.2 0, 384, .inl f19)), (q1, .inr (8, [.ref q12, w6, w7, w8, w9, w10, w11])), (q15, .inl (g.2 0, 40, .inl f16)), (q12, .inr (5, [.ref q18, .ref q15]))] H := hP
  have hD : va_D A [(q18, .inl (g.2 0, 384, .inl f19)), (q1, .inr (8, [.ref q12, w6, w7, w8, w9, w10, w11])), (q15, .inl (g.2 0, 40, .inl f16)), (q12, .inr (5, [.ref q18, .ref q15]))] := hD
  refine lv_bipush (v := 12) hx hb dX9_putItem_9 (by decide) ?_
  refine lv_icmp_lt (tgt := 25) hx hb dX9_putItem_11 (by decide) (fun _ => ?_) (fun h => absurd (by decide) h)
  refine lv_aload_n hx hb dX9_putItem_25 rfl (lv_at hl 0 rfl) ?_
  refine gf_RX9_108 hx hb hown hE hP 1 rfl rfl dX9_putItem_26 ?_
  refine lv_iload_n hx hb dX9_putItem_29 rfl (lv_at hl 1 rfl) ?_
  refine lv_iload_n hx hb dX9_putItem_30 rfl (lv_at hl 2 rfl) ?_
  refine lv_iload_n hx hb dX9_putItem_31 rfl (lv_at hl 3 rfl) ?_
  refine lv_iload hx hb dX9_putItem_32 (lv_at hl 4 rfl) ?_
  refine lv_iload hx hb dX9_putItem_34 (lv_at hl 5 rfl) ?_
  refine g_v (wr := [(q1, .inr (8, [.ref q12, w6, w7, w8, w9, w10, w11]))]) (rV (rest := []) hx hb hml hown hE hP hD 3 rfl rfl (c291_X3_putItem l g q12 q15 q18 x2 x3 x4 f16 f19 (hf17) (hf20) H.size) (kV_X3_putItem hE (e685 hE) rfl rfl ⟨(Nat.le_of_ble_eq_true rfl), (Nat.le_of_ble_eq_true rfl)⟩) [0, 2, 3] rfl (by decide) rfl hl.1 rfl (lv_room (Nat.le_of_ble_eq_true rfl)) dX9_putItem_36 ⟨(Nat.le_of_ble_eq_true rfl), (Nat.le_of_ble_eq_true rfl)⟩) hP hD hS hA [0, 2, 3] [1] rfl rfl (by decide) (by decide) (fun u2 H locs hP hD hS => ?_)
  have hP : va_P g.1 vwCl [(q1, .inr (8, [.ref q12, w6, w7, w8, w9, w10, w11])), (q18, .inl (g.2 0, 384, .inl (upd (upd (upd f19 145 x2) 146 x3) 147 x4))), (q15, .inl (g.2 0, 40, .inl (upd f16 15 1))), (q12, .inr (5, [.ref q18, .ref q15]))] H := hP
  have hD : va_D A [(q1, .inr (8, [.ref q12, w6, w7, w8, w9, w10, w11])), (q18, .inl (g.2 0, 384, .inl (upd (upd (upd f19 145 x2) 146 x3) 147 x4))), (q15, .inl (g.2 0, 40, .inl (upd f16 15 1))), (q12, .inr (5, [.ref q18, .ref q15]))] := hD
  exact x_vret hx hb hr hlocks hP hD hS hAe hsz (Nat.le_of_ble_eq_true rfl) (Nat.le_of_ble_eq_true rfl) (fun _ => 0) [0, 1, 2, 3] (by decide) rfl dX9_putItem_39

set_option maxHeartbeats 4000000 in
set_option maxRecDepth 100000 in
theorem c293_X3_figure (l : Launch) (g : gG) (q1 q4 : Nat) (w2 : Value) (f5 : Nat → Int32) (hf6 : f5 15 = 1) (sz : Nat) : Met l yX3_figure [Cond.code yX3_figure cX3_figure 4 (some .int)] ({ frames := 0, cells := 0, slots := 0, locals := 0 } : Room) (va_Pc [.ref q1, .int 3, .int 0] (PX g sz [(q4, .inl (g.2 0, 40, .inl f5)), (q1, .inr (5, [w2, .ref q4]))])) (QI g [(q4, .inl (g.2 0, 40, .inl f5)), (q1, .inr (5, [w2, .ref q4]))] sz 1 (fun _ => [(q4, .inl (g.2 0, 40, .inl f5)), (q1, .inr (5, [w2, .ref q4]))])) 0 0 (va_A [(q4, .inl (g.2 0, 40, .inl f5)), (q1, .inr (5, [w2, .ref q4]))] sz) := by
  refine ofN (by decide) (Nat.le_of_ble_eq_true rfl) rfl ?_
  intro p e s m args below meth c A ls hAe hsz hx hb hml hr hlocks hin hown hE hP hD hA hS hl
  have hown : s.vm.findClass RX3 = some m.cls := hown
  refine lv_iload_n hx hb dX3_figure_0 rfl (lv_at hl 1 rfl) ?_
  refine lv_iconst (v := 5) hx hb dX3_figure_1 (by decide) ?_
  refine x_imul (v := 15) hx hb dX3_figure_2 (by decide) ?_
  refine lv_iload_n hx hb dX3_figure_3 rfl (lv_at hl 2 rfl) ?_
  refine x_iadd (v := 15) hx hb dX3_figure_4 (by decide) ?_
  refine lv_istore_n (lv' := [(3, .int 15), (0, .ref q1), (1, .int 3), (2, .int 0)]) hx hb dX3_figure_5 rfl hl (by decide) rfl (fun ls hl => ?_)
  refine lv_iload_n hx hb dX3_figure_6 rfl (lv_at hl 0 rfl) ?_
  refine lv_if_lt (tgt := 28) hx hb dX3_figure_7 (by decide) (fun h => absurd h (by decide)) (fun _ => ?_)
  refine lv_iload_n hx hb dX3_figure_10 rfl (lv_at hl 0 rfl) ?_
  refine lv_aload_n hx hb dX3_figure_11 rfl (lv_at hl 1 rfl) ?_
  refine gf_RX3_15 hx hb hown hE hP 1 rfl rfl dX3_figure_12 ?_
  refine x_aleni (v := 40) hx hb hE hP 0 rfl rfl dX3_figure_15 ?_
  refine lv_icmp_ge (tgt := 28) hx hb dX3_figure_16 (by decide) (fun h => absurd h (by decide)) (fun _ => ?_)
  refine lv_aload_n hx hb dX3_figure_19 rfl (lv_at hl 1 rfl) ?_
  refine gf_RX3_15 hx hb hown hE hP 1 rfl rfl dX3_figure_20 ?_
  refine lv_iload_n hx hb dX3_figure_23 rfl (lv_at hl 0 rfl) ?_
  refine x_iald (v := 1) hx hb hE hP 0 rfl 15 (x_in (by decide)) (by decide) hf6 dX3_figure_24 ?_
  refine lv_goto (tgt := 29) hx hb dX3_figure_25 (by decide) ?_
  exact x_zret hx hb hr rfl rfl hlocks hP hD hS hAe hsz (Nat.le_of_ble_eq_true rfl) (Nat.le_of_ble_eq_true rfl) (fun _ => 0) [0, 1] (by decide) rfl dX3_figure_29

set_option maxHeartbeats 4000000 in
set_option maxRecDepth 100000 in
theorem c294_X3_itemNumber (l : Launch) (g : gG) (q1 q4 : Nat) (x7 : Int32) (w3 : Value) (f5 : Nat → Int32) (hf6 : f5 146 = x7) (sz : Nat) : Met l yX3_itemNumber [Cond.code yX3_itemNumber cX3_itemNumber 5 (some .int)] ({ frames := 0, cells := 0, slots := 0, locals := 0 } : Room) (va_Pc [.ref q1, .int 3, .int 0, .int 2] (PX g sz [(q4, .inl (g.2 0, 384, .inl f5)), (q1, .inr (5, [.ref q4, w3]))])) (QI g [(q4, .inl (g.2 0, 384, .inl f5)), (q1, .inr (5, [.ref q4, w3]))] sz x7 (fun _ => [(q4, .inl (g.2 0, 384, .inl f5)), (q1, .inr (5, [.ref q4, w3]))])) 0 0 (va_A [(q4, .inl (g.2 0, 384, .inl f5)), (q1, .inr (5, [.ref q4, w3]))] sz) := by
  refine ofN (by decide) (Nat.le_of_ble_eq_true rfl) rfl ?_
  intro p e s m args below meth c A ls hAe hsz hx hb hml hr hlocks hin hown hE hP hD hA hS hl
  have hown : s.vm.findClass RX3 = some m.cls := hown
  refine lv_iload_n hx hb dX3_itemNumber_0 rfl (lv_at hl 1 rfl) ?_
  refine lv_bipush (v := 12) hx hb dX3_itemNumber_1 (by decide) ?_
  refine x_imul (v := 36) hx hb dX3_itemNumber_3 (by decide) ?_
  refine lv_iload_n hx hb dX3_itemNumber_4 rfl (lv_at hl 2 rfl) ?_
  refine x_iadd (v := 36) hx hb dX3_itemNumber_5 (by decide) ?_
  refine lv_iconst (v := 4) hx hb dX3_itemNumber_6 (by decide) ?_
  refine x_imul (v := 144) hx hb dX3_itemNumber_7 (by decide) ?_
  refine lv_iload_n hx hb dX3_itemNumber_8 rfl (lv_at hl 3 rfl) ?_
  refine x_iadd (v := 146) hx hb dX3_itemNumber_9 (by decide) ?_
  refine lv_istore (lv' := [(4, .int 146), (0, .ref q1), (1, .int 3), (2, .int 0), (3, .int 2)]) hx hb dX3_itemNumber_10 hl (by decide) rfl (fun ls hl => ?_)
  refine lv_iload hx hb dX3_itemNumber_12 (lv_at hl 0 rfl) ?_
  refine lv_if_lt (tgt := 37) hx hb dX3_itemNumber_14 (by decide) (fun h => absurd h (by decide)) (fun _ => ?_)
  refine lv_iload hx hb dX3_itemNumber_17 (lv_at hl 0 rfl) ?_
  refine lv_aload_n hx hb dX3_itemNumber_19 rfl (lv_at hl 1 rfl) ?_
  refine gf_RX3_9 hx hb hown hE hP 1 rfl rfl dX3_itemNumber_20 ?_
  refine x_aleni (v := 384) hx hb hE hP 0 rfl rfl dX3_itemNumber_23 ?_
  refine lv_icmp_ge (tgt := 37) hx hb dX3_itemNumber_24 (by decide) (fun h => absurd h (by decide)) (fun _ => ?_)
  refine lv_aload_n hx hb dX3_itemNumber_27 rfl (lv_at hl 1 rfl) ?_
  refine gf_RX3_9 hx hb hown hE hP 1 rfl rfl dX3_itemNumber_28 ?_
  refine lv_iload hx hb dX3_itemNumber_31 (lv_at hl 0 rfl) ?_
  refine x_iald (v := x7) hx hb hE hP 0 rfl 146 (x_in (by decide)) (by decide) hf6 dX3_itemNumber_33 ?_
  refine lv_goto (tgt := 38) hx hb dX3_itemNumber_34 (by decide) ?_
  exact x_zret hx hb hr rfl rfl hlocks hP hD hS hAe hsz (Nat.le_of_ble_eq_true rfl) (Nat.le_of_ble_eq_true rfl) (fun _ => 0) [0, 1] (by decide) rfl dX3_itemNumber_38

set_option maxHeartbeats 4000000 in
set_option maxRecDepth 100000 in
theorem c295_X3_itemNumber (l : Launch) (g : gG) (q1 q4 : Nat) (w3 : Value) (f5 : Nat → Int32) (hf6 : f5 144 = 0) (sz : Nat) : Met l yX3_itemNumber [Cond.code yX3_itemNumber cX3_itemNumber 5 (some .int)] ({ frames := 0, cells := 0, slots := 0, locals := 0 } : Room) (va_Pc [.ref q1, .int 3, .int 0, .int 0] (PX g sz [(q4, .inl (g.2 0, 384, .inl f5)), (q1, .inr (5, [.ref q4, w3]))])) (QI g [(q4, .inl (g.2 0, 384, .inl f5)), (q1, .inr (5, [.ref q4, w3]))] sz 0 (fun _ => [(q4, .inl (g.2 0, 384, .inl f5)), (q1, .inr (5, [.ref q4, w3]))])) 0 0 (va_A [(q4, .inl (g.2 0, 384, .inl f5)), (q1, .inr (5, [.ref q4, w3]))] sz) := by
  refine ofN (by decide) (Nat.le_of_ble_eq_true rfl) rfl ?_
  intro p e s m args below meth c A ls hAe hsz hx hb hml hr hlocks hin hown hE hP hD hA hS hl
  have hown : s.vm.findClass RX3 = some m.cls := hown
  refine lv_iload_n hx hb dX3_itemNumber_0 rfl (lv_at hl 1 rfl) ?_
  refine lv_bipush (v := 12) hx hb dX3_itemNumber_1 (by decide) ?_
  refine x_imul (v := 36) hx hb dX3_itemNumber_3 (by decide) ?_
  refine lv_iload_n hx hb dX3_itemNumber_4 rfl (lv_at hl 2 rfl) ?_
  refine x_iadd (v := 36) hx hb dX3_itemNumber_5 (by decide) ?_
  refine lv_iconst (v := 4) hx hb dX3_itemNumber_6 (by decide) ?_
  refine x_imul (v := 144) hx hb dX3_itemNumber_7 (by decide) ?_
  refine lv_iload_n hx hb dX3_itemNumber_8 rfl (lv_at hl 3 rfl) ?_
  refine x_iadd (v := 144) hx hb dX3_itemNumber_9 (by decide) ?_
  refine lv_istore (lv' := [(4, .int 144), (0, .ref q1), (1, .int 3), (2, .int 0), (3, .int 0)]) hx hb dX3_itemNumber_10 hl (by decide) rfl (fun ls hl => ?_)
  refine lv_iload hx hb dX3_itemNumber_12 (lv_at hl 0 rfl) ?_
  refine lv_if_lt (tgt := 37) hx hb dX3_itemNumber_14 (by decide) (fun h => absurd h (by decide)) (fun _ => ?_)
  refine lv_iload hx hb dX3_itemNumber_17 (lv_at hl 0 rfl) ?_
  refine lv_aload_n hx hb dX3_itemNumber_19 rfl (lv_at hl 1 rfl) ?_
  refine gf_RX3_9 hx hb hown hE hP 1 rfl rfl dX3_itemNumber_20 ?_
  refine x_aleni (v := 384) hx hb hE hP 0 rfl rfl dX3_itemNumber_23 ?_
  refine lv_icmp_ge (tgt := 37) hx hb dX3_itemNumber_24 (by decide) (fun h => absurd h (by decide)) (fun _ => ?_)
  refine lv_aload_n hx hb dX3_itemNumber_27 rfl (lv_at hl 1 rfl) ?_
  refine gf_RX3_9 hx hb hown hE hP 1 rfl rfl dX3_itemNumber_28 ?_
  refine lv_iload hx hb dX3_itemNumber_31 (lv_at hl 0 rfl) ?_
  refine x_iald (v := 0) hx hb hE hP 0 rfl 144 (x_in (by decide)) (by decide) hf6 dX3_itemNumber_33 ?_
  refine lv_goto (tgt := 38) hx hb dX3_itemNumber_34 (by decide) ?_
  exact x_zret hx hb hr rfl rfl hlocks hP hD hS hAe hsz (Nat.le_of_ble_eq_true rfl) (Nat.le_of_ble_eq_true rfl) (fun _ => 0) [0, 1] (by decide) rfl dX3_itemNumber_38

set_option maxHeartbeats 4000000 in
set_option maxRecDepth 100000 in
theorem c296_X3_lengthOf (l : Launch) (g : gG) (q1 q4 : Nat) (x7 : Int32) (w3 : Value) (f5 : Nat → Int32) (hf6 : f5 146 = x7) (hf8 : f5 144 = 0) (sz : Nat) : Met l yX3_lengthOf [Cond.code yX3_lengthOf cX3_lengthOf 4 (some .int)] ({ frames := 1, cells := 0, slots := 0, locals := 24 } : Room) (va_Pc [.ref q1, .int 3, .int 0] (PX g sz [(q4, .inl (g.2 0, 384, .inl f5)), (q1, .inr (5, [.ref q4, w3]))])) (QI g [(q4, .inl (g.2 0, 384, .inl f5)), (q1, .inr (5, [.ref q4, w3]))] sz x7 (fun _ => [(q4, .inl (g.2 0, 384, .inl f5)), (q1, .inr (5, [.ref q4, w3]))])) 0 0 (va_A [(q4, .inl (g.2 0, 384, .inl f5)), (q1, .inr (5, [.ref q4, w3]))] sz) := by
  refine ofN (by decide) (Nat.le_of_ble_eq_true rfl) rfl ?_
  intro p e s m args below meth c A ls hAe hsz hx hb hml hr hlocks hin hown hE hP hD hA hS hl
  have hown : s.vm.findClass RX3 = some m.cls := hown
  refine lv_aload_n hx hb dX3_lengthOf_0 rfl (lv_at hl 0 rfl) ?_
  refine lv_iload_n hx hb dX3_lengthOf_1 rfl (lv_at hl 1 rfl) ?_
  refine lv_iload_n hx hb dX3_lengthOf_2 rfl (lv_at hl 2 rfl) ?_
  refine lv_iconst (v := 2) hx hb dX3_lengthOf_3 (by decide) ?_
  refine g_i (wr := []) (rV (rest := []) hx hb hml hown hE hP hD 1 rfl rfl (c294_X3_itemNumber l g q1 q4 x7 w3 f5 (hf6) s.heap.size) (kV_X3_itemNumber hE (e348 hE) rfl rfl ⟨(Nat.le_of_ble_eq_true rfl), (Nat.le_of_ble_eq_true rfl)⟩) [0, 1] rfl (by decide) rfl hl.1 rfl (lv_room (Nat.le_of_ble_eq_true rfl)) dX3_lengthOf_4 ⟨(Nat.le_of_ble_eq_true rfl), (Nat.le_of_ble_eq_true rfl)⟩) hP hD hS hA [0, 1] [] rfl rfl (by decide) (by decide) (fun u1 H locs hP hD hS => ?_)
  have hP : va_P g.1 vwCl [(q4, .inl (g.2 0, 384, .inl f5)), (q1, .inr (5, [.ref q4, w3]))] H := hP
  have hD : va_D A [(q4, .inl (g.2 0, 384, .inl f5)), (q1, .inr (5, [.ref q4, w3]))] := hD
  refine lv_istore_n (lv' := [(3, .int x7), (0, .ref q1), (1, .int 3), (2, .int 0)]) hx hb dX3_lengthOf_7 rfl hl (by decide) rfl (fun ls hl => ?_)
  refine lv_aload_n hx hb dX3_lengthOf_8 rfl (lv_at hl 1 rfl) ?_
  refine lv_iload_n hx hb dX3_lengthOf_9 rfl (lv_at hl 2 rfl) ?_
  refine lv_iload_n hx hb dX3_lengthOf_10 rfl (lv_at hl 3 rfl) ?_
  refine lv_iconst (v := 0) hx hb dX3_lengthOf_11 (by decide) ?_
  refine g_i (wr := []) (rV (rest := []) hx hb hml hown hE hP hD 1 rfl rfl (c295_X3_itemNumber l g q1 q4 w3 f5 (hf8) H.size) (kV_X3_itemNumber hE (e348 hE) rfl rfl ⟨(Nat.le_of_ble_eq_true rfl), (Nat.le_of_ble_eq_true rfl)⟩) [0, 1] rfl (by decide) rfl hl.1 rfl (lv_room (Nat.le_of_ble_eq_true rfl)) dX3_lengthOf_12 ⟨(Nat.le_of_ble_eq_true rfl), (Nat.le_of_ble_eq_true rfl)⟩) hP hD hS hA [0, 1] [] rfl rfl (by decide) (by decide) (fun u2 H locs hP hD hS => ?_)
  have hP : va_P g.1 vwCl [(q4, .inl (g.2 0, 384, .inl f5)), (q1, .inr (5, [.ref q4, w3]))] H := hP
  have hD : va_D A [(q4, .inl (g.2 0, 384, .inl f5)), (q1, .inr (5, [.ref q4, w3]))] := hD
  refine lv_iconst (v := 2) hx hb dX3_lengthOf_15 (by decide) ?_
  refine lv_icmp_ne (tgt := 34) hx hb dX3_lengthOf_16 (by decide) (fun _ => ?_) (fun h => absurd h (by decide))
  refine lv_iload_n hx hb dX3_lengthOf_34 rfl (lv_at hl 0 rfl) ?_
  exact x_zret hx hb hr rfl rfl hlocks hP hD hS hAe hsz (Nat.le_of_ble_eq_true rfl) (Nat.le_of_ble_eq_true rfl) (fun _ => 0) [0, 1] (by decide) rfl dX3_lengthOf_35

set_option maxHeartbeats 4000000 in
set_option maxRecDepth 100000 in
theorem c297_X3_notesOf (l : Launch) (g : gG) (q1 q4 : Nat) (w3 : Value) (f5 : Nat → Int32) (hf6 : f5 144 = 0) (sz : Nat) : Met l yX3_notesOf [Cond.code yX3_notesOf cX3_notesOf 4 (some .int)] ({ frames := 1, cells := 0, slots := 0, locals := 24 } : Room) (va_Pc [.ref q1, .int 3, .int 0] (PX g sz [(q4, .inl (g.2 0, 384, .inl f5)), (q1, .inr (5, [.ref q4, w3]))])) (QI g [(q4, .inl (g.2 0, 384, .inl f5)), (q1, .inr (5, [.ref q4, w3]))] sz 1 (fun _ => [(q4, .inl (g.2 0, 384, .inl f5)), (q1, .inr (5, [.ref q4, w3]))])) 0 0 (va_A [(q4, .inl (g.2 0, 384, .inl f5)), (q1, .inr (5, [.ref q4, w3]))] sz) := by
  refine ofN (by decide) (Nat.le_of_ble_eq_true rfl) rfl ?_
  intro p e s m args below meth c A ls hAe hsz hx hb hml hr hlocks hin hown hE hP hD hA hS hl
  have hown : s.vm.findClass RX3 = some m.cls := hown
  refine lv_aload_n hx hb dX3_notesOf_0 rfl (lv_at hl 0 rfl) ?_
  refine lv_iload_n hx hb dX3_notesOf_1 rfl (lv_at hl 1 rfl) ?_
  refine lv_iload_n hx hb dX3_notesOf_2 rfl (lv_at hl 2 rfl) ?_
  refine lv_iconst (v := 0) hx hb dX3_notesOf_3 (by decide) ?_
  refine g_i (wr := []) (rV (rest := []) hx hb hml hown hE hP hD 1 rfl rfl (c295_X3_itemNumber l g q1 q4 w3 f5 (hf6) s.heap.size) (kV_X3_itemNumber hE (e348 hE) rfl rfl ⟨(Nat.le_of_ble_eq_true rfl), (Nat.le_of_ble_eq_true rfl)⟩) [0, 1] rfl (by decide) rfl hl.1 rfl (lv_room (Nat.le_of_ble_eq_true rfl)) dX3_notesOf_4 ⟨(Nat.le_of_ble_eq_true rfl), (Nat.le_of_ble_eq_true rfl)⟩) hP hD hS hA [0, 1] [] rfl rfl (by decide) (by decide) (fun u1 H locs hP hD hS => ?_)
  have hP : va_P g.1 vwCl [(q4, .inl (g.2 0, 384, .inl f5)), (q1, .inr (5, [.ref q4, w3]))] H := hP
  have hD : va_D A [(q4, .inl (g.2 0, 384, .inl f5)), (q1, .inr (5, [.ref q4, w3]))] := hD
  refine lv_istore_n (lv' := [(3, .int 0), (0, .ref q1), (1, .int 3), (2, .int 0)]) hx hb dX3_notesOf_7 rfl hl (by decide) rfl (fun ls hl => ?_)
  refine lv_iload_n hx hb dX3_notesOf_8 rfl (lv_at hl 0 rfl) ?_
  refine lv_iconst (v := 2) hx hb dX3_notesOf_9 (by decide) ?_
  refine lv_icmp_ne (tgt := 34) hx hb dX3_notesOf_10 (by decide) (fun _ => ?_) (fun h => absurd h (by decide))
  refine lv_iload_n hx hb dX3_notesOf_34 rfl (lv_at hl 0 rfl) ?_
  refine lv_if_ne (tgt := 42) hx hb dX3_notesOf_35 (by decide) (fun h => absurd h (by decide)) (fun _ => ?_)
  refine lv_iconst (v := 1) hx hb dX3_notesOf_38 (by decide) ?_
  refine lv_goto (tgt := 43) hx hb dX3_notesOf_39 (by decide) ?_
  exact x_zret hx hb hr rfl rfl hlocks hP hD hS hAe hsz (Nat.le_of_ble_eq_true rfl) (Nat.le_of_ble_eq_true rfl) (fun _ => 0) [0, 1] (by decide) rfl dX3_notesOf_43

set_option maxHeartbeats 4000000 in
set_option maxRecDepth 100000 in
theorem c298_X3_putFigure (l : Launch) (g : gG) (q1 q5 : Nat) (x2 : Int32) (w3 : Value) (f6 : Nat → Int32) (sz : Nat) : Met l yX3_putFigure [Cond.code yX3_putFigure cX3_putFigure 5 none] ({ frames := 0, cells := 0, slots := 0, locals := 0 } : Room) (va_Pc [.ref q1, .int 3, .int 1, .int x2] (PX g sz [(q5, .inl (g.2 0, 40, .inl f6)), (q1, .inr (5, [w3, .ref q5]))])) (QV g [(q5, .inl (g.2 0, 40, .inl f6)), (q1, .inr (5, [w3, .ref q5]))] sz (fun _ => [(q5, .inl (g.2 0, 40, .inl (upd f6 16 x2))), (q1, .inr (5, [w3, .ref q5]))])) 0 0 (va_A [(q5, .inl (g.2 0, 40, .inl f6)), (q1, .inr (5, [w3, .ref q5]))] sz) := by
  refine ofN (by decide) (Nat.le_of_ble_eq_true rfl) rfl ?_
  intro p e s m args below meth c A ls hAe hsz hx hb hml hr hlocks hin hown hE hP hD hA hS hl
  have hown : s.vm.findClass RX3 = some m.cls := hown
  refine lv_iload_n hx hb dX3_putFigure_0 rfl (lv_at hl 1 rfl) ?_
  refine lv_iconst (v := 5) hx hb dX3_putFigure_1 (by decide) ?_
  refine x_imul (v := 15) hx hb dX3_putFigure_2 (by decide) ?_
  refine lv_iload_n hx hb dX3_putFigure_3 rfl (lv_at hl 2 rfl) ?_
  refine x_iadd (v := 16) hx hb dX3_putFigure_4 (by decide) ?_
  refine lv_istore (lv' := [(4, .int 16), (0, .ref q1), (1, .int 3), (2, .int 1), (3, .int x2)]) hx hb dX3_putFigure_5 hl (by decide) rfl (fun ls hl => ?_)
  refine lv_iload hx hb dX3_putFigure_7 (lv_at hl 0 rfl) ?_
  refine lv_if_lt (tgt := 30) hx hb dX3_putFigure_9 (by decide) (fun h => absurd h (by decide)) (fun _ => ?_)
  refine lv_iload hx hb dX3_putFigure_12 (lv_at hl 0 rfl) ?_
  refine lv_aload_n hx hb dX3_putFigure_14 rfl (lv_at hl 1 rfl) ?_
  refine gf_RX3_15 hx hb hown hE hP 1 rfl rfl dX3_putFigure_15 ?_
  refine x_aleni (v := 40) hx hb hE hP 0 rfl rfl dX3_putFigure_18 ?_
  refine lv_icmp_ge (tgt := 30) hx hb dX3_putFigure_19 (by decide) (fun h => absurd h (by decide)) (fun _ => ?_)
  refine lv_aload_n hx hb dX3_putFigure_22 rfl (lv_at hl 1 rfl) ?_
  refine gf_RX3_15 hx hb hown hE hP 1 rfl rfl dX3_putFigure_23 ?_
  refine lv_iload hx hb dX3_putFigure_26 (lv_at hl 0 rfl) ?_
  refine lv_iload_n hx hb dX3_putFigure_28 rfl (lv_at hl 4 rfl) ?_
  refine x_iast (ws' := [(q5, .inl (g.2 0, 40, .inl (upd f6 16 x2))), (q1, .inr (5, [w3, .ref q5]))]) hx hb hE hP hD hS 0 rfl 16 (x_in (by decide)) (by decide) dX3_putFigure_29 rfl (fun H locs hP hD hS => ?_)
  exact x_vret hx hb hr hlocks hP hD hS hAe hsz (Nat.le_of_ble_eq_true rfl) (Nat.le_of_ble_eq_true rfl) (fun _ => 0) [0, 1] (by decide) rfl dX3_putFigure_30

set_option maxHeartbeats 4000000 in
set_option maxRecDepth 100000 in
theorem c299_X3_putFigure (l : Launch) (g : gG) (q1 q4 : Nat) (w2 : Value) (f5 : Nat → Int32) (sz : Nat) : Met l yX3_putFigure [Cond.code yX3_putFigure cX3_putFigure 5 none] ({ frames := 0, cells := 0, slots := 0, locals := 0 } : Room) (va_Pc [.ref q1, .int 3, .int 2, .int 1] (PX g sz [(q4, .inl (g.2 0, 40, .inl f5)), (q1, .inr (5, [w2, .ref q4]))])) (QV g [(q4, .inl (g.2 0, 40, .inl f5)), (q1, .inr (5, [w2, .ref q4]))] sz (fun _ => [(q4, .inl (g.2 0, 40, .inl (upd f5 17 1))), (q1, .inr (5, [w2, .ref q4]))])) 0 0 (va_A [(q4, .inl (g.2 0, 40, .inl f5)), (q1, .inr (5, [w2, .ref q4]))] sz) := by
  refine ofN (by decide) (Nat.le_of_ble_eq_true rfl) rfl ?_
  intro p e s m args below meth c A ls hAe hsz hx hb hml hr hlocks hin hown hE hP hD hA hS hl
  have hown : s.vm.findClass RX3 = some m.cls := hown
  refine lv_iload_n hx hb dX3_putFigure_0 rfl (lv_at hl 1 rfl) ?_
  refine lv_iconst (v := 5) hx hb dX3_putFigure_1 (by decide) ?_
  refine x_imul (v := 15) hx hb dX3_putFigure_2 (by decide) ?_
  refine lv_iload_n hx hb dX3_putFigure_3 rfl (lv_at hl 2 rfl) ?_
  refine x_iadd (v := 17) hx hb dX3_putFigure_4 (by decide) ?_
  refine lv_istore (lv' := [(4, .int 17), (0, .ref q1), (1, .int 3), (2, .int 2), (3, .int 1)]) hx hb dX3_putFigure_5 hl (by decide) rfl (fun ls hl => ?_)
  refine lv_iload hx hb dX3_putFigure_7 (lv_at hl 0 rfl) ?_
  refine lv_if_lt (tgt := 30) hx hb dX3_putFigure_9 (by decide) (fun h => absurd h (by decide)) (fun _ => ?_)
  refine lv_iload hx hb dX3_putFigure_12 (lv_at hl 0 rfl) ?_
  refine lv_aload_n hx hb dX3_putFigure_14 rfl (lv_at hl 1 rfl) ?_
  refine gf_RX3_15 hx hb hown hE hP 1 rfl rfl dX3_putFigure_15 ?_
  refine x_aleni (v := 40) hx hb hE hP 0 rfl rfl dX3_putFigure_18 ?_
  refine lv_icmp_ge (tgt := 30) hx hb dX3_putFigure_19 (by decide) (fun h => absurd h (by decide)) (fun _ => ?_)
  refine lv_aload_n hx hb dX3_putFigure_22 rfl (lv_at hl 1 rfl) ?_
  refine gf_RX3_15 hx hb hown hE hP 1 rfl rfl dX3_putFigure_23 ?_
  refine lv_iload hx hb dX3_putFigure_26 (lv_at hl 0 rfl) ?_
  refine lv_iload_n hx hb dX3_putFigure_28 rfl (lv_at hl 4 rfl) ?_
  refine x_iast (ws' := [(q4, .inl (g.2 0, 40, .inl (upd f5 17 1))), (q1, .inr (5, [w2, .ref q4]))]) hx hb hE hP hD hS 0 rfl 17 (x_in (by decide)) (by decide) dX3_putFigure_29 rfl (fun H locs hP hD hS => ?_)
  exact x_vret hx hb hr hlocks hP hD hS hAe hsz (Nat.le_of_ble_eq_true rfl) (Nat.le_of_ble_eq_true rfl) (fun _ => 0) [0, 1] (by decide) rfl dX3_putFigure_30

set_option maxHeartbeats 4000000 in
set_option maxRecDepth 100000 in
theorem c300_X3_measureOne (l : Launch) (g : gG) (q1 q4 q7 : Nat) (x10 : Int32) (f5 : Nat → Int32) (f8 : Nat → Int32) (hf6 : f5 15 = 1) (hf9 : f8 146 = x10) (hf11 : f8 144 = 0) (hf12 : f5 18 = 0) (sz : Nat) : Met l yX3_measureOne [Cond.code yX3_measureOne cX3_measureOne 9 none] ({ frames := 2, cells := 0, slots := 0, locals := 47 } : Room) (va_Pc [.ref q1, .int 3] (PX g sz [(q7, .inl (g.2 0, 384, .inl f8)), (q4, .inl (g.2 0, 40, .inl f5)), (q1, .inr (5, [.ref q7, .ref q4]))])) (QV g [(q7, .inl (g.2 0, 384, .inl f8)), (q4, .inl (g.2 0, 40, .inl f5)), (q1, .inr (5, [.ref q7, .ref q4]))] sz (fun _ => [(q7, .inl (g.2 0, 384, .inl f8)), (q4, .inl (g.2 0, 40, .inl (upd (upd (upd f5 16 x10) 17 1) 19 1))), (q1, .inr (5, [.ref q7, .ref q4]))])) 0 0 (va_A [(q7, .inl (g.2 0, 384, .inl f8)), (q4, .inl (g.2 0, 40, .inl f5)), (q1, .inr (5, [.ref q7, .ref q4]))] sz) := by
  refine ofN (by decide) (Nat.le_of_ble_eq_true rfl) rfl ?_
  intro p e s m args below meth c A ls hAe hsz hx hb hml hr hlocks hin hown hE hP hD hA hS hl
  have hown : s.vm.findClass RX3 = some m.cls := hown
  refine lv_iconst (v := 0) hx hb dX3_measureOne_0 (by decide) ?_
  refine lv_istore_n (lv' := [(2, .int 0), (0, .ref q1), (1, .int 3)]) hx hb dX3_measureOne_1 rfl hl (by decide) rfl (fun ls hl => ?_)
  refine lv_iconst (v := 0) hx hb dX3_measureOne_2 (by decide) ?_
  refine lv_istore_n (lv' := [(3, .int 0), (2, .int 0), (0, .ref q1), (1, .int 3)]) hx hb dX3_measureOne_3 rfl hl (by decide) rfl (fun ls hl => ?_)
  refine lv_iconst (v := 0) hx hb dX3_measureOne_4 (by decide) ?_
  refine lv_istore (lv' := [(4, .int 0), (3, .int 0), (2, .int 0), (0, .ref q1), (1, .int 3)]) hx hb dX3_measureOne_5 hl (by decide) rfl (fun ls hl => ?_)
  refine lv_iconst (v := 1) hx hb dX3_measureOne_7 (by decide) ?_
  refine lv_istore (lv' := [(5, .int 1), (4, .int 0), (3, .int 0), (2, .int 0), (0, .ref q1), (1, .int 3)]) hx hb dX3_measureOne_8 hl (by decide) rfl (fun ls hl => ?_)
  refine lv_aload_n hx hb dX3_measureOne_10 rfl (lv_at hl 4 rfl) ?_
  refine lv_iload_n hx hb dX3_measureOne_11 rfl (lv_at hl 5 rfl) ?_
  refine lv_iconst (v := 0) hx hb dX3_measureOne_12 (by decide) ?_
  refine g_i (wr := [(q7, .inl (g.2 0, 384, .inl f8))]) (rV (rest := []) hx hb hml hown hE hP hD 2 rfl rfl (c293_X3_figure l g q1 q4 (.ref q7) f5 (hf6) s.heap.size) (kV_X3_figure hE (e343 hE) rfl rfl ⟨(Nat.le_of_ble_eq_true rfl), (Nat.le_of_ble_eq_true rfl)⟩) [1, 2] rfl (by decide) rfl hl.1 rfl (lv_room (Nat.le_of_ble_eq_true rfl)) dX3_measureOne_13 ⟨(Nat.le_of_ble_eq_true rfl), (Nat.le_of_ble_eq_true rfl)⟩) hP hD hS hA [1, 2] [0] rfl rfl (by decide) (by decide) (fun u1 H locs hP hD hS => ?_)
  have hP : va_P g.1 vwCl [(q7, .inl (g.2 0, 384, .inl f8)), (q4, .inl (g.2 0, 40, .inl f5)), (q1, .inr (5, [.ref q7, .ref q4]))] H := hP
  have hD : va_D A [(q7, .inl (g.2 0, 384, .inl f8)), (q4, .inl (g.2 0, 40, .inl f5)), (q1, .inr (5, [.ref q7, .ref q4]))] := hD
  refine lv_istore (lv' := [(6, .int 1), (5, .int 1), (4, .int 0), (3, .int 0), (2, .int 0), (0, .ref q1), (1, .int 3)]) hx hb dX3_measureOne_16 hl (by decide) rfl (fun ls hl => ?_)
  refine lv_iconst (v := 0) hx hb dX3_measureOne_18 (by decide) ?_
  refine lv_istore (lv' := [(7, .int 0), (6, .int 1), (5, .int 1), (4, .int 0), (3, .int 0), (2, .int 0), (0, .ref q1), (1, .int 3)]) hx hb dX3_measureOne_19 hl (by decide) rfl (fun ls hl => ?_)
  refine lv_iload hx hb dX3_measureOne_21 (lv_at hl 0 rfl) ?_
  refine lv_iload hx hb dX3_measureOne_23 (lv_at hl 1 rfl) ?_
  refine lv_icmp_ge (tgt := 109) hx hb dX3_measureOne_25 (by decide) (fun h => absurd h (by decide)) (fun _ => ?_)
  refine lv_iload_n hx hb dX3_measureOne_28 rfl (lv_at hl 5 rfl) ?_
  refine lv_aload_n hx hb dX3_measureOne_29 rfl (lv_at hl 6 rfl) ?_
  refine lv_iload_n hx hb dX3_measureOne_30 rfl (lv_at hl 7 rfl) ?_
  refine lv_iload hx hb dX3_measureOne_31 (lv_at hl 0 rfl) ?_
  refine g_i (wr := [(q4, .inl (g.2 0, 40, .inl f5))]) (rV (rest := [.int 0]) hx hb hml hown hE hP hD 2 rfl rfl (c296_X3_lengthOf l g q1 q7 x10 (.ref q4) f8 (hf9) (hf11) H.size) (kV_X3_lengthOf hE (e352 hE) rfl rfl ⟨(Nat.le_of_ble_eq_true rfl), (Nat.le_of_ble_eq_true rfl)⟩) [0, 2] rfl (by decide) rfl hl.1 rfl (lv_room (Nat.le_of_ble_eq_true rfl)) dX3_measureOne_33 ⟨(Nat.le_of_ble_eq_true rfl), (Nat.le_of_ble_eq_true rfl)⟩) hP hD hS hA [0, 2] [1] rfl rfl (by decide) (by decide) (fun u2 H locs hP hD hS => ?_)
  have hP : va_P g.1 vwCl [(q4, .inl (g.2 0, 40, .inl f5)), (q7, .inl (g.2 0, 384, .inl f8)), (q1, .inr (5, [.ref q7, .ref q4]))] H := hP
  have hD : va_D A [(q4, .inl (g.2 0, 40, .inl f5)), (q7, .inl (g.2 0, 384, .inl f8)), (q1, .inr (5, [.ref q7, .ref q4]))] := hD
  refine x_iadd (v := x10) hx hb dX3_measureOne_36 (Int32.zero_add _) ?_
  refine lv_istore_n (lv' := [(2, .int x10), (7, .int 0), (6, .int 1), (5, .int 1), (4, .int 0), (3, .int 0), (0, .ref q1), (1, .int 3)]) hx hb dX3_measureOne_37 rfl hl (by decide) rfl (fun ls hl => ?_)
  refine lv_iload_n hx hb dX3_measureOne_38 rfl (lv_at hl 5 rfl) ?_
  refine lv_aload_n hx hb dX3_measureOne_39 rfl (lv_at hl 6 rfl) ?_
  refine lv_iload_n hx hb dX3_measureOne_40 rfl (lv_at hl 7 rfl) ?_
  refine lv_iload hx hb dX3_measureOne_41 (lv_at hl 1 rfl) ?_
  refine g_i (wr := [(q4, .inl (g.2 0, 40, .inl f5))]) (rV (rest := [.int 0]) hx hb hml hown hE hP hD 2 rfl rfl (c297_X3_notesOf l g q1 q7 (.ref q4) f8 (hf11) H.size) (kV_X3_notesOf hE (e344 hE) rfl rfl ⟨(Nat.le_of_ble_eq_true rfl), (Nat.le_of_ble_eq_true rfl)⟩) [1, 2] rfl (by decide) rfl hl.1 rfl (lv_room (Nat.le_of_ble_eq_true rfl)) dX3_measureOne_43 ⟨(Nat.le_of_ble_eq_true rfl), (Nat.le_of_ble_eq_true rfl)⟩) hP hD hS hA [1, 2] [0] rfl rfl (by decide) (by decide) (fun u3 H locs hP hD hS => ?_)
  have hP : va_P g.1 vwCl [(q4, .inl (g.2 0, 40, .inl f5)), (q7, .inl (g.2 0, 384, .inl f8)), (q1, .inr (5, [.ref q7, .ref q4]))] H := hP
  have hD : va_D A [(q4, .inl (g.2 0, 40, .inl f5)), (q7, .inl (g.2 0, 384, .inl f8)), (q1, .inr (5, [.ref q7, .ref q4]))] := hD
  refine x_iadd (v := 1) hx hb dX3_measureOne_46 (by decide) ?_
  refine lv_istore_n (lv' := [(3, .int 1), (2, .int x10), (7, .int 0), (6, .int 1), (5, .int 1), (4, .int 0), (0, .ref q1), (1, .int 3)]) hx hb dX3_measureOne_47 rfl hl (by decide) rfl (fun ls hl => ?_)
  refine lv_aload_n hx hb dX3_measureOne_48 rfl (lv_at hl 6 rfl) ?_
  refine lv_iload_n hx hb dX3_measureOne_49 rfl (lv_at hl 7 rfl) ?_
  refine lv_iload hx hb dX3_measureOne_50 (lv_at hl 2 rfl) ?_
  refine lv_iconst (v := 0) hx hb dX3_measureOne_52 (by decide) ?_
  refine g_i (wr := [(q4, .inl (g.2 0, 40, .inl f5))]) (rV (rest := []) hx hb hml hown hE hP hD 2 rfl rfl (c295_X3_itemNumber l g q1 q7 (.ref q4) f8 (hf11) H.size) (kV_X3_itemNumber hE (e348 hE) rfl rfl ⟨(Nat.le_of_ble_eq_true rfl), (Nat.le_of_ble_eq_true rfl)⟩) [1, 2] rfl (by decide) rfl hl.1 rfl (lv_room (Nat.le_of_ble_eq_true rfl)) dX3_measureOne_53 ⟨(Nat.le_of_ble_eq_true rfl), (Nat.le_of_ble_eq_true rfl)⟩) hP hD hS hA [1, 2] [0] rfl rfl (by decide) (by decide) (fun u4 H locs hP hD hS => ?_)
  have hP : va_P g.1 vwCl [(q4, .inl (g.2 0, 40, .inl f5)), (q7, .inl (g.2 0, 384, .inl f8)), (q1, .inr (5, [.ref q7, .ref q4]))] H := hP
  have hD : va_D A [(q4, .inl (g.2 0, 40, .inl f5)), (q7, .inl (g.2 0, 384, .inl f8)), (q1, .inr (5, [.ref q7, .ref q4]))] := hD
  refine lv_iconst (v := 2) hx hb dX3_measureOne_56 (by decide) ?_
  refine lv_icmp_ne (tgt := 103) hx hb dX3_measureOne_57 (by decide) (fun _ => ?_) (fun h => absurd h (by decide))
  refine lv_iinc (v := 1) (lv' := [(7, .int 1), (3, .int 1), (2, .int x10), (6, .int 1), (5, .int 1), (4, .int 0), (0, .ref q1), (1, .int 3)]) hx hb dX3_measureOne_103 hl (k := 2) rfl (by decide) (by decide) rfl (fun ls hl => ?_)
  refine lv_goto (tgt := 21) hx hb dX3_measureOne_106 (by decide) ?_
  refine lv_iload hx hb dX3_measureOne_21 (lv_at hl 0 rfl) ?_
  refine lv_iload hx hb dX3_measureOne_23 (lv_at hl 3 rfl) ?_
  refine lv_icmp_ge (tgt := 109) hx hb dX3_measureOne_25 (by decide) (fun _ => ?_) (fun h => absurd (by decide) h)
  refine lv_aload_n hx hb dX3_measureOne_109 rfl (lv_at hl 6 rfl) ?_
  refine lv_iload_n hx hb dX3_measureOne_110 rfl (lv_at hl 7 rfl) ?_
  refine lv_iconst (v := 1) hx hb dX3_measureOne_111 (by decide) ?_
  refine lv_iload_n hx hb dX3_measureOne_112 rfl (lv_at hl 2 rfl) ?_
  refine g_v (wr := [(q7, .inl (g.2 0, 384, .inl f8))]) (rV (rest := []) hx hb hml hown hE hP hD 2 rfl rfl (c298_X3_putFigure l g q1 q4 x10 (.ref q7) f5 H.size) (kV_X3_putFigure hE (e91 hE) rfl rfl ⟨(Nat.le_of_ble_eq_true rfl), (Nat.le_of_ble_eq_true rfl)⟩) [0, 2] rfl (by decide) rfl hl.1 rfl (lv_room (Nat.le_of_ble_eq_true rfl)) dX3_measureOne_113 ⟨(Nat.le_of_ble_eq_true rfl), (Nat.le_of_ble_eq_true rfl)⟩) hP hD hS hA [0, 2] [1] rfl rfl (by decide) (by decide) (fun u5 H locs hP hD hS => ?_)
  have hP : va_P g.1 vwCl [(q7, .inl (g.2 0, 384, .inl f8)), (q4, .inl (g.2 0, 40, .inl (upd f5 16 x10))), (q1, .inr (5, [.ref q7, .ref q4]))] H := hP
  have hD : va_D A [(q7, .inl (g.2 0, 384, .inl f8)), (q4, .inl (g.2 0, 40, .inl (upd f5 16 x10))), (q1, .inr (5, [.ref q7, .ref q4]))] := hD
  refine lv_aload_n hx hb dX3_measureOne_116 rfl (lv_at hl 6 rfl) ?_
  refine lv_iload_n hx hb dX3_measureOne_117 rfl (lv_at hl 7 rfl) ?_
  refine lv_iconst (v := 2) hx hb dX3_measureOne_118 (by decide) ?_
  refine lv_iload_n hx hb dX3_measureOne_119 rfl (lv_at hl 1 rfl) ?_
  refine g_v (wr := [(q7, .inl (g.2 0, 384, .inl f8))]) (rV (rest := []) hx hb hml hown hE hP hD 2 rfl rfl (c299_X3_putFigure l g q1 q4 (.ref q7) (upd f5 16 x10) H.size) (kV_X3_putFigure hE (e91 hE) rfl rfl ⟨(Nat.le_of_ble_eq_true rfl), (Nat.le_of_ble_eq_true rfl)⟩) [1, 2] rfl (by decide) rfl hl.1 rfl (lv_room (Nat.le_of_ble_eq_true rfl)) dX3_measureOne_120 ⟨(Nat.le_of_ble_eq_true rfl), (Nat.le_of_ble_eq_true rfl)⟩) hP hD hS hA [1, 2] [0] rfl rfl (by decide) (by decide) (fun u6 H locs hP hD hS => ?_)
  have hP : va_P g.1 vwCl [(q7, .inl (g.2 0, 384, .inl f8)), (q4, .inl (g.2 0, 40, .inl (upd (upd f5 16 x10) 17 1))), (q1, .inr (5, [.ref q7, .ref q4]))] H := hP
  have hD : va_D A [(q7, .inl (g.2 0, 384, .inl f8)), (q4, .inl (g.2 0, 40, .inl (upd (upd f5 16 x10) 17 1))), (q1, .inr (5, [.ref q7, .ref q4]))] := hD
  refine lv_aload_n hx hb dX3_measureOne_123 rfl (lv_at hl 6 rfl) ?_
  refine lv_iload_n hx hb dX3_measureOne_124 rfl (lv_at hl 7 rfl) ?_
  refine lv_iconst (v := 3) hx hb dX3_measureOne_125 (by decide) ?_
  refine lv_iload hx hb dX3_measureOne_126 (lv_at hl 5 rfl) ?_
  refine g_v (wr := [(q7, .inl (g.2 0, 384, .inl f8))]) (rV (rest := []) hx hb hml hown hE hP hD 2 rfl rfl (c161_X3_putFigure l g q1 q4 (.ref q7) (upd (upd f5 16 x10) 17 1) (((pk_un (by decide)).trans ((pk_un (by decide)).trans hf12))) H.size) (kV_X3_putFigure hE (e91 hE) rfl rfl ⟨(Nat.le_of_ble_eq_true rfl), (Nat.le_of_ble_eq_true rfl)⟩) [1, 2] rfl (by decide) rfl hl.1 rfl (lv_room (Nat.le_of_ble_eq_true rfl)) dX3_measureOne_128 ⟨(Nat.le_of_ble_eq_true rfl), (Nat.le_of_ble_eq_true rfl)⟩) hP hD hS hA [1, 2] [0] rfl rfl (by decide) (by decide) (fun u7 H locs hP hD hS => ?_)
  have hP : va_P g.1 vwCl [(q7, .inl (g.2 0, 384, .inl f8)), (q4, .inl (g.2 0, 40, .inl (upd (upd f5 16 x10) 17 1))), (q1, .inr (5, [.ref q7, .ref q4]))] H := hP
  have hD : va_D A [(q7, .inl (g.2 0, 384, .inl f8)), (q4, .inl (g.2 0, 40, .inl (upd (upd f5 16 x10) 17 1))), (q1, .inr (5, [.ref q7, .ref q4]))] := hD
  refine lv_aload_n hx hb dX3_measureOne_131 rfl (lv_at hl 6 rfl) ?_
  refine lv_iload_n hx hb dX3_measureOne_132 rfl (lv_at hl 7 rfl) ?_
  refine lv_iconst (v := 4) hx hb dX3_measureOne_133 (by decide) ?_
  refine lv_iload hx hb dX3_measureOne_134 (lv_at hl 4 rfl) ?_
  refine g_v (wr := [(q7, .inl (g.2 0, 384, .inl f8))]) (rV (rest := []) hx hb hml hown hE hP hD 2 rfl rfl (c6_X3_putFigure l g q1 q4 (.ref q7) (upd (upd f5 16 x10) 17 1) H.size) (kV_X3_putFigure hE (e91 hE) rfl rfl ⟨(Nat.le_of_ble_eq_true rfl), (Nat.le_of_ble_eq_true rfl)⟩) [1, 2] rfl (by decide) rfl hl.1 rfl (lv_room (Nat.le_of_ble_eq_true rfl)) dX3_measureOne_136 ⟨(Nat.le_of_ble_eq_true rfl), (Nat.le_of_ble_eq_true rfl)⟩) hP hD hS hA [1, 2] [0] rfl rfl (by decide) (by decide) (fun u8 H locs hP hD hS => ?_)
  have hP : va_P g.1 vwCl [(q7, .inl (g.2 0, 384, .inl f8)), (q4, .inl (g.2 0, 40, .inl (upd (upd (upd f5 16 x10) 17 1) 19 1))), (q1, .inr (5, [.ref q7, .ref q4]))] H := hP
  have hD : va_D A [(q7, .inl (g.2 0, 384, .inl f8)), (q4, .inl (g.2 0, 40, .inl (upd (upd (upd f5 16 x10) 17 1) 19 1))), (q1, .inr (5, [.ref q7, .ref q4]))] := hD
  exact x_vret hx hb hr hlocks hP hD hS hAe hsz (Nat.le_of_ble_eq_true rfl) (Nat.le_of_ble_eq_true rfl) (fun _ => 0) [0, 1, 2] (by decide) rfl dX3_measureOne_139
