set_option maxHeartbeats 4000000 in
set_option maxRecDepth 100000 in
theorem c70_J9_floorMod_7cf53 (l : Launch) (g : gG) (sz : Nat) : Met l yJ9_floorMod_7cf53 [Cond.code yJ9_floorMod_7cf53 cJ9_floorMod_7cf53 3 (some .int)] ({ frames := 0, cells := 0, slots := 0, locals := 0 } : Room) (va_Pc [.int 0, .int 10] (PX g sz [])) (QI g [] sz 0 (fun _ => [])) 0 0 (va_A [] sz) := by
  refine ofM (by decide +kernel) (Nat.le_of_ble_eq_true rfl) rfl ?_
  intro p e s m args below meth c A ls hAe hsz hx hb hml hr hlocks hin hown hE hP hD hA hS hl
  have hown : s.vm.findClass RJ9 = some m.cls := hown
  refine lv_iload_n hx hb dJ9_floorMod_7cf53_0 rfl (lv_at hl 0 rfl) ?_
  refine lv_iload_n hx hb dJ9_floorMod_7cf53_1 rfl (lv_at hl 1 rfl) ?_
  refine lv_irem hx hb dJ9_floorMod_7cf53_2 (by decide) ?_
  refine x_top (v := 0) (by decide) ?_
  refine lv_istore_n (lv' := [(2, .int 0), (0, .int 0), (1, .int 10)]) hx hb dJ9_floorMod_7cf53_3 rfl hl (by decide) rfl (fun ls hl => ?_)
  refine lv_iload_n hx hb dJ9_floorMod_7cf53_4 rfl (lv_at hl 1 rfl) ?_
  refine lv_iload_n hx hb dJ9_floorMod_7cf53_5 rfl (lv_at hl 2 rfl) ?_
  refine x_ixor (v := 10) hx hb dJ9_floorMod_7cf53_6 (by decide) ?_
  refine lv_if_ge (tgt := 18) hx hb dJ9_floorMod_7cf53_7 (by decide) (fun _ => ?_) (fun h => absurd (by decide) h)
  refine lv_iload_n hx hb dJ9_floorMod_7cf53_18 rfl (lv_at hl 0 rfl) ?_
  exact x_zret hx hb hr rfl rfl hlocks hP hD hS hAe hsz (Nat.le_of_ble_eq_true rfl) (Nat.le_of_ble_eq_true rfl) (fun _ => 0) [] (by decide) rfl dJ9_floorMod_7cf53_19

set_option maxHeartbeats 4000000 in
set_option maxRecDepth 100000 in
theorem c71_X8_current (l : Launch) (g : gG) (q1 q5 q8 : Nat) (w4 : Value) (f6 : Nat → Option Nat) (hf7 : f6 0 = some q8) (sz : Nat) : Met l yX8_current [Cond.code yX8_current cX8_current 1 (some (.object "PatternSequencer$Song"))] ({ frames := 1, cells := 0, slots := 0, locals := 22 } : Room) (va_Pc [.ref q1] (PX g sz [(q5, .inl (g.2 3, 10, .inr (.inr (.inr (.inr f6))))), (q1, .inr (10, [.ref q5, .int 0, w4]))])) (QR g [(q5, .inl (g.2 3, 10, .inr (.inr (.inr (.inr f6))))), (q1, .inr (10, [.ref q5, .int 0, w4]))] sz q8 (fun _ => [(q5, .inl (g.2 3, 10, .inr (.inr (.inr (.inr f6))))), (q1, .inr (10, [.ref q5, .int 0, w4]))])) 0 0 (va_A [(q5, .inl (g.2 3, 10, .inr (.inr (.inr (.inr f6))))), (q1, .inr (10, [.ref q5, .int 0, w4]))] sz) := by
  refine ofN (by decide) (Nat.le_of_ble_eq_true rfl) rfl ?_
  intro p e s m args below meth c A ls hAe hsz hx hb hml hr hlocks hin hown hE hP hD hA hS hl
  have hown : s.vm.findClass RX8 = some m.cls := hown
  refine lv_aload_n hx hb dX8_current_0 rfl (lv_at hl 0 rfl) ?_
  refine gf_RX8_13 hx hb hown hE hP 1 rfl rfl dX8_current_1 ?_
  refine lv_aload_n hx hb dX8_current_4 rfl (lv_at hl 0 rfl) ?_
  refine gf_RX8_17 hx hb hown hE hP 1 rfl rfl dX8_current_5 ?_
  refine lv_bipush (v := 10) hx hb dX8_current_8 (by decide) ?_
  refine g0_i (rS (rest := [.ref q5]) hx hb hml hown hE hP hD (c70_J9_floorMod_7cf53 l g s.heap.size) (kS_J9_floorMod_7cf53 hE (e294 hE) rfl rfl ⟨(Nat.le_of_ble_eq_true rfl), (Nat.le_of_ble_eq_true rfl)⟩) [] rfl (by decide) rfl hl.1 rfl (lv_room (Nat.le_of_ble_eq_true rfl)) dX8_current_10 ⟨(Nat.le_of_ble_eq_true rfl), (Nat.le_of_ble_eq_true rfl)⟩) hP hD hS hA (fun u9 H locs hP hS => ?_)
  refine x_aald (v := q8) hx hb hE hP 0 rfl 0 (x_in (by decide)) (by decide) hf7 dX8_current_13 ?_
  exact x_aret hx hb hr (Or.inl ⟨_, rfl⟩) hlocks hP hD hS hAe hsz (Nat.le_of_ble_eq_true rfl) (Nat.le_of_ble_eq_true rfl) (fun _ => 0) [0, 1] (by decide) rfl dX8_current_14

set_option maxHeartbeats 4000000 in
set_option maxRecDepth 100000 in
theorem c72_X6_clipCount (l : Launch) (g : gG) (q1 : Nat) (w2 w3 w4 w5 w7 w8 : Value) (sz : Nat) : Met l yX6_clipCount [Cond.code yX6_clipCount cX6_clipCount 1 (some .int)] ({ frames := 0, cells := 0, slots := 0, locals := 0 } : Room) (va_Pc [.ref q1] (PX g sz [(q1, .inr (8, [w2, w3, w4, w5, .int 0, w7, w8]))])) (QI g [(q1, .inr (8, [w2, w3, w4, w5, .int 0, w7, w8]))] sz 0 (fun _ => [(q1, .inr (8, [w2, w3, w4, w5, .int 0, w7, w8]))])) 0 0 (va_A [(q1, .inr (8, [w2, w3, w4, w5, .int 0, w7, w8]))] sz) := by
  refine ofN (by decide) (Nat.le_of_ble_eq_true rfl) rfl ?_
  intro p e s m args below meth c A ls hAe hsz hx hb hml hr hlocks hin hown hE hP hD hA hS hl
  have hown : s.vm.findClass RX6 = some m.cls := hown
  refine lv_aload_n hx hb dX6_clipCount_0 rfl (lv_at hl 0 rfl) ?_
  refine gf_RX6_37 hx hb hown hE hP 0 rfl rfl dX6_clipCount_1 ?_
  exact x_zret hx hb hr rfl rfl hlocks hP hD hS hAe hsz (Nat.le_of_ble_eq_true rfl) (Nat.le_of_ble_eq_true rfl) (fun _ => 0) [0] (by decide) rfl dX6_clipCount_4

set_option maxHeartbeats 4000000 in
set_option maxRecDepth 100000 in
theorem c73_X7_reset (l : Launch) (g : gG) (q1 q6 q9 : Nat) (w4 w5 : Value) (f7 : Nat → Int32) (f10 : Nat → Int32) (hf8 : f7 0 = 0) (hf11 : f10 0 = 100) (sz : Nat) : Met l yX7_reset [Cond.code yX7_reset cX7_reset 1 none] ({ frames := 0, cells := 0, slots := 0, locals := 0 } : Room) (va_Pc [.ref q1] (PX g sz [(q9, .inl (g.2 0, 10, .inl f10)), (q6, .inl (g.2 0, 10, .inl f7)), (q1, .inr (9, [.ref q6, .ref q9, w4, w5]))])) (QV g [(q9, .inl (g.2 0, 10, .inl f10)), (q6, .inl (g.2 0, 10, .inl f7)), (q1, .inr (9, [.ref q6, .ref q9, w4, w5]))] sz (fun _ => [(q9, .inl (g.2 0, 10, .inl f10)), (q6, .inl (g.2 0, 10, .inl f7)), (q1, .inr (9, [.ref q6, .ref q9, .int 1, .int 0]))])) 0 0 (va_A [(q9, .inl (g.2 0, 10, .inl f10)), (q6, .inl (g.2 0, 10, .inl f7)), (q1, .inr (9, [.ref q6, .ref q9, w4, w5]))] sz) := by
  refine ofN (by decide) (Nat.le_of_ble_eq_true rfl) rfl ?_
  intro p e s m args below meth c A ls hAe hsz hx hb hml hr hlocks hin hown hE hP hD hA hS hl
  have hown : s.vm.findClass RX7 = some m.cls := hown
  refine lv_aload_n hx hb dX7_reset_0 rfl (lv_at hl 0 rfl) ?_
  refine lv_iconst (v := 1) hx hb dX7_reset_1 (by decide) ?_
  refine pf_RX7_18 (ws' := [(q9, .inl (g.2 0, 10, .inl f10)), (q6, .inl (g.2 0, 10, .inl f7)), (q1, .inr (9, [.ref q6, .ref q9, .int 1, w5]))]) hx hb hown hE hP hD hS 2 rfl rfl rfl (Nat.le_of_ble_eq_true rfl) dX7_reset_2 rfl (fun H locs hP hD hS => ?_)
  refine lv_aload_n hx hb dX7_reset_5 rfl (lv_at hl 0 rfl) ?_
  refine lv_iconst (v := 0) hx hb dX7_reset_6 (by decide) ?_
  refine pf_RX7_22 (ws' := [(q9, .inl (g.2 0, 10, .inl f10)), (q6, .inl (g.2 0, 10, .inl f7)), (q1, .inr (9, [.ref q6, .ref q9, .int 1, .int 0]))]) hx hb hown hE hP hD hS 2 rfl rfl rfl (Nat.le_of_ble_eq_true rfl) dX7_reset_7 rfl (fun H locs hP hD hS => ?_)
  refine lv_aload_n hx hb dX7_reset_10 rfl (lv_at hl 0 rfl) ?_
  refine gf_RX7_9 hx hb hown hE hP 2 rfl rfl dX7_reset_11 ?_
  refine lv_iconst (v := 0) hx hb dX7_reset_14 (by decide) ?_
  refine lv_iconst (v := 0) hx hb dX7_reset_15 (by decide) ?_
  refine x_iast_same hx hb hE hP hD hS 1 rfl 0 (x_in (by decide)) (by decide) hf8 dX7_reset_16 (fun H locs hP hD hS => ?_)
  refine lv_aload_n hx hb dX7_reset_17 rfl (lv_at hl 0 rfl) ?_
  refine gf_RX7_15 hx hb hown hE hP 2 rfl rfl dX7_reset_18 ?_
  refine lv_iconst (v := 0) hx hb dX7_reset_21 (by decide) ?_
  refine lv_bipush (v := 100) hx hb dX7_reset_22 (by decide) ?_
  refine x_iast_same hx hb hE hP hD hS 0 rfl 0 (x_in (by decide)) (by decide) hf11 dX7_reset_24 (fun H locs hP hD hS => ?_)
  exact x_vret hx hb hr hlocks hP hD hS hAe hsz (Nat.le_of_ble_eq_true rfl) (Nat.le_of_ble_eq_true rfl) (fun _ => 0) [0, 1, 2] (by decide) rfl dX7_reset_25

set_option maxHeartbeats 4000000 in
set_option maxRecDepth 100000 in
theorem c74_X6_reset (l : Launch) (g : gG) (q1 q9 q12 q14 q19 q20 q25 : Nat) (w4 w6 w7 w8 w10 w17 w18 : Value) (f13 : Nat → Int32) (f21 : Nat → Int32) (f23 : Nat → Int32) (f26 : Nat → Int32) (hf22 : f21 0 = 0) (hf24 : f23 0 = 100) (hf27 : f26 0 = 0) (hf28 : f26 1 = 0) (hf29 : f26 3 = 0) (hf30 : f26 5 = 0) (hf31 : f26 6 = 0) (hf32 : f26 8 = 0) (hf33 : f26 10 = 0) (hf34 : f26 11 = 0) (hf35 : f26 13 = 0) (hf36 : f26 15 = 0) (hf37 : f26 16 = 0) (hf38 : f26 18 = 0) (sz : Nat) : Met l yX6_reset [Cond.code yX6_reset cX6_reset 2 none] ({ frames := 3, cells := 0, slots := 0, locals := 70 } : Room) (va_Pc [.ref q1] (PX g sz [(q25, .inl (g.2 0, 20, .inl f26)), (q20, .inl (g.2 0, 10, .inl f23)), (q19, .inl (g.2 0, 10, .inl f21)), (q14, .inr (9, [.ref q19, .ref q20, w17, w18])), (q12, .inl (g.2 0, 40, .inl f13)), (q9, .inr (5, [w10, .ref q12])), (q1, .inr (8, [.ref q9, .ref q14, w4, .ref q25, w6, w7, w8]))])) (QV g [(q25, .inl (g.2 0, 20, .inl f26)), (q20, .inl (g.2 0, 10, .inl f23)), (q19, .inl (g.2 0, 10, .inl f21)), (q14, .inr (9, [.ref q19, .ref q20, w17, w18])), (q12, .inl (g.2 0, 40, .inl f13)), (q9, .inr (5, [w10, .ref q12])), (q1, .inr (8, [.ref q9, .ref q14, w4, .ref q25, w6, w7, w8]))] sz (fun _ => [(q12, .inl (g.2 0, 40, .inl (upd (upd (upd (upd (upd (upd (upd (upd (fillF 40 0 f13) 4 1) 9 1) 14 1) 19 1) 24 1) 29 1) 34 1) 39 1))), (q9, .inr (5, [w10, .ref q12])), (q20, .inl (g.2 0, 10, .inl f23)), (q19, .inl (g.2 0, 10, .inl f21)), (q14, .inr (9, [.ref q19, .ref q20, .int 1, .int 0])), (q1, .inr (8, [.ref q9, .ref q14, w4, .ref q25, .int 0, .int 4, .int 0])), (q25, .inl (g.2 0, 20, .inl (upd (upd (upd (upd (upd (upd (upd (upd f26 2 100) 4 5) 7 100) 9 5) 12 100) 14 5) 17 100) 19 5)))])) 0 0 (va_A [(q25, .inl (g.2 0, 20, .inl f26)), (q20, .inl (g.2 0, 10, .inl f23)), (q19, .inl (g.2 0, 10, .inl f21)), (q14, .inr (9, [.ref q19, .ref q20, w17, w18])), (q12, .inl (g.2 0, 40, .inl f13)), (q9, .inr (5, [w10, .ref q12])), (q1, .inr (8, [.ref q9, .ref q14, w4, .ref q25, w6, w7, w8]))] sz) := by
  refine ofN (by decide) (Nat.le_of_ble_eq_true rfl) rfl ?_
  intro p e s m args below meth c A ls hAe hsz hx hb hml hr hlocks hin hown hE hP hD hA hS hl
  have hown : s.vm.findClass RX6 = some m.cls := hown
  refine lv_aload_n hx hb dX6_reset_0 rfl (lv_at hl 0 rfl) ?_
  refine gf_RX6_12 hx hb hown hE hP 6 rfl rfl dX6_reset_1 ?_
  refine g_v (wr := [(q25, .inl (g.2 0, 20, .inl f26)), (q20, .inl (g.2 0, 10, .inl f23)), (q19, .inl (g.2 0, 10, .inl f21)), (q14, .inr (9, [.ref q19, .ref q20, w17, w18])), (q1, .inr (8, [.ref q9, .ref q14, w4, .ref q25, w6, w7, w8]))]) (rV (rest := []) hx hb hml hown hE hP hD 5 rfl rfl (c11_X3_reset l g q9 q12 w10 f13 s.heap.size) (kV_X3_reset hE (e84 hE) rfl rfl ⟨(Nat.le_of_ble_eq_true rfl), (Nat.le_of_ble_eq_true rfl)⟩) [4, 5] rfl (by decide) rfl hl.1 rfl (lv_room (Nat.le_of_ble_eq_true rfl)) dX6_reset_4 ⟨(Nat.le_of_ble_eq_true rfl), (Nat.le_of_ble_eq_true rfl)⟩) hP hD hS hA [4, 5] [0, 1, 2, 3, 6] rfl rfl (by decide) (by decide) (fun u1 H locs hP hD hS => ?_)
  have hP : va_P g.1 vwCl [(q25, .inl (g.2 0, 20, .inl f26)), (q20, .inl (g.2 0, 10, .inl f23)), (q19, .inl (g.2 0, 10, .inl f21)), (q14, .inr (9, [.ref q19, .ref q20, w17, w18])), (q1, .inr (8, [.ref q9, .ref q14, w4, .ref q25, w6, w7, w8])), (q12, .inl (g.2 0, 40, .inl (upd (upd (upd (upd (upd (upd (upd (upd (fillF 40 0 f13) 4 1) 9 1) 14 1) 19 1) 24 1) 29 1) 34 1) 39 1))), (q9, .inr (5, [w10, .ref q12]))] H := hP
  have hD : va_D A [(q25, .inl (g.2 0, 20, .inl f26)), (q20, .inl (g.2 0, 10, .inl f23)), (q19, .inl (g.2 0, 10, .inl f21)), (q14, .inr (9, [.ref q19, .ref q20, w17, w18])), (q1, .inr (8, [.ref q9, .ref q14, w4, .ref q25, w6, w7, w8])), (q12, .inl (g.2 0, 40, .inl (upd (upd (upd (upd (upd (upd (upd (upd (fillF 40 0 f13) 4 1) 9 1) 14 1) 19 1) 24 1) 29 1) 34 1) 39 1))), (q9, .inr (5, [w10, .ref q12]))] := hD
  refine lv_aload_n hx hb dX6_reset_7 rfl (lv_at hl 0 rfl) ?_
  refine gf_RX6_21 hx hb hown hE hP 4 rfl rfl dX6_reset_8 ?_
  refine g_v (wr := [(q25, .inl (g.2 0, 20, .inl f26)), (q1, .inr (8, [.ref q9, .ref q14, w4, .ref q25, w6, w7, w8])), (q12, .inl (g.2 0, 40, .inl (upd (upd (upd (upd (upd (upd (upd (upd (fillF 40 0 f13) 4 1) 9 1) 14 1) 19 1) 24 1) 29 1) 34 1) 39 1))), (q9, .inr (5, [w10, .ref q12]))]) (rV (rest := []) hx hb hml hown hE hP hD 3 rfl rfl (c73_X7_reset l g q14 q19 q20 w17 w18 f21 f23 (hf22) (hf24) H.size) (kV_X7_reset hE (e95 hE) rfl rfl ⟨(Nat.le_of_ble_eq_true rfl), (Nat.le_of_ble_eq_true rfl)⟩) [1, 2, 3] rfl (by decide) rfl hl.1 rfl (lv_room (Nat.le_of_ble_eq_true rfl)) dX6_reset_11 ⟨(Nat.le_of_ble_eq_true rfl), (Nat.le_of_ble_eq_true rfl)⟩) hP hD hS hA [1, 2, 3] [0, 4, 5, 6] rfl rfl (by decide) (by decide) (fun u2 H locs hP hD hS => ?_)
  have hP : va_P g.1 vwCl [(q25, .inl (g.2 0, 20, .inl f26)), (q1, .inr (8, [.ref q9, .ref q14, w4, .ref q25, w6, w7, w8])), (q12, .inl (g.2 0, 40, .inl (upd (upd (upd (upd (upd (upd (upd (upd (fillF 40 0 f13) 4 1) 9 1) 14 1) 19 1) 24 1) 29 1) 34 1) 39 1))), (q9, .inr (5, [w10, .ref q12])), (q20, .inl (g.2 0, 10, .inl f23)), (q19, .inl (g.2 0, 10, .inl f21)), (q14, .inr (9, [.ref q19, .ref q20, .int 1, .int 0]))] H := hP
  have hD : va_D A [(q25, .inl (g.2 0, 20, .inl f26)), (q1, .inr (8, [.ref q9, .ref q14, w4, .ref q25, w6, w7, w8])), (q12, .inl (g.2 0, 40, .inl (upd (upd (upd (upd (upd (upd (upd (upd (fillF 40 0 f13) 4 1) 9 1) 14 1) 19 1) 24 1) 29 1) 34 1) 39 1))), (q9, .inr (5, [w10, .ref q12])), (q20, .inl (g.2 0, 10, .inl f23)), (q19, .inl (g.2 0, 10, .inl f21)), (q14, .inr (9, [.ref q19, .ref q20, .int 1, .int 0]))] := hD
  refine lv_aload_n hx hb dX6_reset_14 rfl (lv_at hl 0 rfl) ?_
  refine lv_iconst (v := 0) hx hb dX6_reset_15 (by decide) ?_
  refine pf_RX6_37 (ws' := [(q25, .inl (g.2 0, 20, .inl f26)), (q1, .inr (8, [.ref q9, .ref q14, w4, .ref q25, .int 0, w7, w8])), (q12, .inl (g.2 0, 40, .inl (upd (upd (upd (upd (upd (upd (upd (upd (fillF 40 0 f13) 4 1) 9 1) 14 1) 19 1) 24 1) 29 1) 34 1) 39 1))), (q9, .inr (5, [w10, .ref q12])), (q20, .inl (g.2 0, 10, .inl f23)), (q19, .inl (g.2 0, 10, .inl f21)), (q14, .inr (9, [.ref q19, .ref q20, .int 1, .int 0]))]) hx hb hown hE hP hD hS 1 rfl rfl rfl (Nat.le_of_ble_eq_true rfl) dX6_reset_16 rfl (fun H locs hP hD hS => ?_)
  refine lv_aload_n hx hb dX6_reset_19 rfl (lv_at hl 0 rfl) ?_
  refine lv_iconst (v := 4) hx hb dX6_reset_20 (by decide) ?_
  refine pf_RX6_41 (ws' := [(q25, .inl (g.2 0, 20, .inl f26)), (q1, .inr (8, [.ref q9, .ref q14, w4, .ref q25, .int 0, .int 4, w8])), (q12, .inl (g.2 0, 40, .inl (upd (upd (upd (upd (upd (upd (upd (upd (fillF 40 0 f13) 4 1) 9 1) 14 1) 19 1) 24 1) 29 1) 34 1) 39 1))), (q9, .inr (5, [w10, .ref q12])), (q20, .inl (g.2 0, 10, .inl f23)), (q19, .inl (g.2 0, 10, .inl f21)), (q14, .inr (9, [.ref q19, .ref q20, .int 1, .int 0]))]) hx hb hown hE hP hD hS 1 rfl rfl rfl (Nat.le_of_ble_eq_true rfl) dX6_reset_21 rfl (fun H locs hP hD hS => ?_)
  refine lv_aload_n hx hb dX6_reset_24 rfl (lv_at hl 0 rfl) ?_
  refine lv_iconst (v := 0) hx hb dX6_reset_25 (by decide) ?_
  refine pf_RX6_44 (ws' := [(q25, .inl (g.2 0, 20, .inl f26)), (q1, .inr (8, [.ref q9, .ref q14, w4, .ref q25, .int 0, .int 4, .int 0])), (q12, .inl (g.2 0, 40, .inl (upd (upd (upd (upd (upd (upd (upd (upd (fillF 40 0 f13) 4 1) 9 1) 14 1) 19 1) 24 1) 29 1) 34 1) 39 1))), (q9, .inr (5, [w10, .ref q12])), (q20, .inl (g.2 0, 10, .inl f23)), (q19, .inl (g.2 0, 10, .inl f21)), (q14, .inr (9, [.ref q19, .ref q20, .int 1, .int 0]))]) hx hb hown hE hP hD hS 1 rfl rfl rfl (Nat.le_of_ble_eq_true rfl) dX6_reset_26 rfl (fun H locs hP hD hS => ?_)
  refine lv_iconst (v := 0) hx hb dX6_reset_29 (by decide) ?_
  refine lv_istore_n (lv' := [(1, .int 0), (0, .ref q1)]) hx hb dX6_reset_30 rfl hl (by decide) rfl (fun ls hl => ?_)
  refine lv_iload_n hx hb dX6_reset_31 rfl (lv_at hl 0 rfl) ?_
  refine lv_iconst (v := 4) hx hb dX6_reset_32 (by decide) ?_
  refine lv_icmp_ge (tgt := 59) hx hb dX6_reset_33 (by decide) (fun h => absurd h (by decide)) (fun _ => ?_)
  refine lv_aload_n hx hb dX6_reset_36 rfl (lv_at hl 1 rfl) ?_
  refine lv_iload_n hx hb dX6_reset_37 rfl (lv_at hl 0 rfl) ?_
  refine lv_iconst (v := 0) hx hb dX6_reset_38 (by decide) ?_
  refine lv_iconst (v := 0) hx hb dX6_reset_39 (by decide) ?_
  refine lv_bipush (v := 100) hx hb dX6_reset_40 (by decide) ?_
  refine lv_iconst (v := 0) hx hb dX6_reset_42 (by decide) ?_
  refine g_v (wr := [(q12, .inl (g.2 0, 40, .inl (upd (upd (upd (upd (upd (upd (upd (upd (fillF 40 0 f13) 4 1) 9 1) 14 1) 19 1) 24 1) 29 1) 34 1) 39 1))), (q9, .inr (5, [w10, .ref q12])), (q20, .inl (g.2 0, 10, .inl f23)), (q19, .inl (g.2 0, 10, .inl f21)), (q14, .inr (9, [.ref q19, .ref q20, .int 1, .int 0]))]) (rV (rest := []) hx hb hml hown hE hP hD 1 rfl rfl (c21_X6_putEnvelope l g q1 q25 (.ref q9) (.ref q14) w4 (.int 0) (.int 4) (.int 0) f26 (hf27) (hf28) (hf29) H.size) (kV_X6_putEnvelope hE (e99 hE) rfl rfl ⟨(Nat.le_of_ble_eq_true rfl), (Nat.le_of_ble_eq_true rfl)⟩) [0, 1] rfl (by decide) rfl hl.1 rfl (lv_room (Nat.le_of_ble_eq_true rfl)) dX6_reset_43 ⟨(Nat.le_of_ble_eq_true rfl), (Nat.le_of_ble_eq_true rfl)⟩) hP hD hS hA [0, 1] [2, 3, 4, 5, 6] rfl rfl (by decide) (by decide) (fun u3 H locs hP hD hS => ?_)
  have hP : va_P g.1 vwCl [(q12, .inl (g.2 0, 40, .inl (upd (upd (upd (upd (upd (upd (upd (upd (fillF 40 0 f13) 4 1) 9 1) 14 1) 19 1) 24 1) 29 1) 34 1) 39 1))), (q9, .inr (5, [w10, .ref q12])), (q20, .inl (g.2 0, 10, .inl f23)), (q19, .inl (g.2 0, 10, .inl f21)), (q14, .inr (9, [.ref q19, .ref q20, .int 1, .int 0])), (q1, .inr (8, [.ref q9, .ref q14, w4, .ref q25, .int 0, .int 4, .int 0])), (q25, .inl (g.2 0, 20, .inl (upd f26 2 100)))] H := hP
  have hD : va_D A [(q12, .inl (g.2 0, 40, .inl (upd (upd (upd (upd (upd (upd (upd (upd (fillF 40 0 f13) 4 1) 9 1) 14 1) 19 1) 24 1) 29 1) 34 1) 39 1))), (q9, .inr (5, [w10, .ref q12])), (q20, .inl (g.2 0, 10, .inl f23)), (q19, .inl (g.2 0, 10, .inl f21)), (q14, .inr (9, [.ref q19, .ref q20, .int 1, .int 0])), (q1, .inr (8, [.ref q9, .ref q14, w4, .ref q25, .int 0, .int 4, .int 0])), (q25, .inl (g.2 0, 20, .inl (upd f26 2 100)))] := hD
  refine lv_aload_n hx hb dX6_reset_46 rfl (lv_at hl 1 rfl) ?_
  refine lv_iload_n hx hb dX6_reset_47 rfl (lv_at hl 0 rfl) ?_
  refine lv_iconst (v := 4) hx hb dX6_reset_48 (by decide) ?_
  refine lv_iconst (v := 5) hx hb dX6_reset_49 (by decide) ?_
  refine g_v (wr := [(q12, .inl (g.2 0, 40, .inl (upd (upd (upd (upd (upd (upd (upd (upd (fillF 40 0 f13) 4 1) 9 1) 14 1) 19 1) 24 1) 29 1) 34 1) 39 1))), (q9, .inr (5, [w10, .ref q12])), (q20, .inl (g.2 0, 10, .inl f23)), (q19, .inl (g.2 0, 10, .inl f21)), (q14, .inr (9, [.ref q19, .ref q20, .int 1, .int 0]))]) (rV (rest := []) hx hb hml hown hE hP hD 5 rfl rfl (c23_X6_putInstrumentNumber l g q1 q25 (.ref q9) (.ref q14) w4 (.int 0) (.int 4) (.int 0) (upd f26 2 100) H.size) (kV_X6_putInstrumentNumber hE (e103 hE) rfl rfl ⟨(Nat.le_of_ble_eq_true rfl), (Nat.le_of_ble_eq_true rfl)⟩) [6, 5] rfl (by decide) rfl hl.1 rfl (lv_room (Nat.le_of_ble_eq_true rfl)) dX6_reset_50 ⟨(Nat.le_of_ble_eq_true rfl), (Nat.le_of_ble_eq_true rfl)⟩) hP hD hS hA [6, 5] [0, 1, 2, 3, 4] rfl rfl (by decide) (by decide) (fun u4 H locs hP hD hS => ?_)
  have hP : va_P g.1 vwCl [(q12, .inl (g.2 0, 40, .inl (upd (upd (upd (upd (upd (upd (upd (upd (fillF 40 0 f13) 4 1) 9 1) 14 1) 19 1) 24 1) 29 1) 34 1) 39 1))), (q9, .inr (5, [w10, .ref q12])), (q20, .inl (g.2 0, 10, .inl f23)), (q19, .inl (g.2 0, 10, .inl f21)), (q14, .inr (9, [.ref q19, .ref q20, .int 1, .int 0])), (q1, .inr (8, [.ref q9, .ref q14, w4, .ref q25, .int 0, .int 4, .int 0])), (q25, .inl (g.2 0, 20, .inl (upd (upd f26 2 100) 4 5)))] H := hP
  have hD : va_D A [(q12, .inl (g.2 0, 40, .inl (upd (upd (upd (upd (upd (upd (upd (upd (fillF 40 0 f13) 4 1) 9 1) 14 1) 19 1) 24 1) 29 1) 34 1) 39 1))), (q9, .inr (5, [w10, .ref q12])), (q20, .inl (g.2 0, 10, .inl f23)), (q19, .inl (g.2 0, 10, .inl f21)), (q14, .inr (9, [.ref q19, .ref q20, .int 1, .int 0])), (q1, .inr (8, [.ref q9, .ref q14, w4, .ref q25, .int 0, .int 4, .int 0])), (q25, .inl (g.2 0, 20, .inl (upd (upd f26 2 100) 4 5)))] := hD
  refine lv_iinc (v := 1) (lv' := [(1, .int 1), (0, .ref q1)]) hx hb dX6_reset_53 hl (k := 0) rfl (by decide) (by decide) rfl (fun ls hl => ?_)
  refine lv_goto (tgt := 31) hx hb dX6_reset_56 (by decide) ?_
  refine lv_iload_n hx hb dX6_reset_31 rfl (lv_at hl 0 rfl) ?_
  refine lv_iconst (v := 4) hx hb dX6_reset_32 (by decide) ?_
  refine lv_icmp_ge (tgt := 59) hx hb dX6_reset_33 (by decide) (fun h => absurd h (by decide)) (fun _ => ?_)
  refine lv_aload_n hx hb dX6_reset_36 rfl (lv_at hl 1 rfl) ?_
  refine lv_iload_n hx hb dX6_reset_37 rfl (lv_at hl 0 rfl) ?_
  refine lv_iconst (v := 0) hx hb dX6_reset_38 (by decide) ?_
  refine lv_iconst (v := 0) hx hb dX6_reset_39 (by decide) ?_
  refine lv_bipush (v := 100) hx hb dX6_reset_40 (by decide) ?_
  refine lv_iconst (v := 0) hx hb dX6_reset_42 (by decide) ?_
  refine g_v (wr := [(q12, .inl (g.2 0, 40, .inl (upd (upd (upd (upd (upd (upd (upd (upd (fillF 40 0 f13) 4 1) 9 1) 14 1) 19 1) 24 1) 29 1) 34 1) 39 1))), (q9, .inr (5, [w10, .ref q12])), (q20, .inl (g.2 0, 10, .inl f23)), (q19, .inl (g.2 0, 10, .inl f21)), (q14, .inr (9, [.ref q19, .ref q20, .int 1, .int 0]))]) (rV (rest := []) hx hb hml hown hE hP hD 5 rfl rfl (c32_X6_putEnvelope l g q1 q25 (.ref q9) (.ref q14) w4 (.int 0) (.int 4) (.int 0) (upd (upd f26 2 100) 4 5) (((pk_un (by decide)).trans ((pk_un (by decide)).trans hf30))) (((pk_un (by decide)).trans ((pk_un (by decide)).trans hf31))) (((pk_un (by decide)).trans ((pk_un (by decide)).trans hf32))) H.size) (kV_X6_putEnvelope hE (e99 hE) rfl rfl ⟨(Nat.le_of_ble_eq_true rfl), (Nat.le_of_ble_eq_true rfl)⟩) [6, 5] rfl (by decide) rfl hl.1 rfl (lv_room (Nat.le_of_ble_eq_true rfl)) dX6_reset_43 ⟨(Nat.le_of_ble_eq_true rfl), (Nat.le_of_ble_eq_true rfl)⟩) hP hD hS hA [6, 5] [0, 1, 2, 3, 4] rfl rfl (by decide) (by decide) (fun u5 H locs hP hD hS => ?_)
  have hP : va_P g.1 vwCl [(q12, .inl (g.2 0, 40, .inl (upd (upd (upd (upd (upd (upd (upd (upd (fillF 40 0 f13) 4 1) 9 1) 14 1) 19 1) 24 1) 29 1) 34 1) 39 1))), (q9, .inr (5, [w10, .ref q12])), (q20, .inl (g.2 0, 10, .inl f23)), (q19, .inl (g.2 0, 10, .inl f21)), (q14, .inr (9, [.ref q19, .ref q20, .int 1, .int 0])), (q1, .inr (8, [.ref q9, .ref q14, w4, .ref q25, .int 0, .int 4, .int 0])), (q25, .inl (g.2 0, 20, .inl (upd (upd (upd f26 2 100) 4 5) 7 100)))] H := hP
  have hD : va_D A [(q12, .inl (g.2 0, 40, .inl (upd (upd (upd (upd (upd (upd (upd (upd (fillF 40 0 f13) 4 1) 9 1) 14 1) 19 1) 24 1) 29 1) 34 1) 39 1))), (q9, .inr (5, [w10, .ref q12])), (q20, .inl (g.2 0, 10, .inl f23)), (q19, .inl (g.2 0, 10, .inl f21)), (q14, .inr (9, [.ref q19, .ref q20, .int 1, .int 0])), (q1, .inr (8, [.ref q9, .ref q14, w4, .ref q25, .int 0, .int 4, .int 0])), (q25, .inl (g.2 0, 20, .inl (upd (upd (upd f26 2 100) 4 5) 7 100)))] := hD
  refine lv_aload_n hx hb dX6_reset_46 rfl (lv_at hl 1 rfl) ?_
  refine lv_iload_n hx hb dX6_reset_47 rfl (lv_at hl 0 rfl) ?_
  refine lv_iconst (v := 4) hx hb dX6_reset_48 (by decide) ?_
  refine lv_iconst (v := 5) hx hb dX6_reset_49 (by decide) ?_
  refine g_v (wr := [(q12, .inl (g.2 0, 40, .inl (upd (upd (upd (upd (upd (upd (upd (upd (fillF 40 0 f13) 4 1) 9 1) 14 1) 19 1) 24 1) 29 1) 34 1) 39 1))), (q9, .inr (5, [w10, .ref q12])), (q20, .inl (g.2 0, 10, .inl f23)), (q19, .inl (g.2 0, 10, .inl f21)), (q14, .inr (9, [.ref q19, .ref q20, .int 1, .int 0]))]) (rV (rest := []) hx hb hml hown hE hP hD 5 rfl rfl (c34_X6_putInstrumentNumber l g q1 q25 (.ref q9) (.ref q14) w4 (.int 0) (.int 4) (.int 0) (upd (upd (upd f26 2 100) 4 5) 7 100) H.size) (kV_X6_putInstrumentNumber hE (e103 hE) rfl rfl ⟨(Nat.le_of_ble_eq_true rfl), (Nat.le_of_ble_eq_true rfl)⟩) [6, 5] rfl (by decide) rfl hl.1 rfl (lv_room (Nat.le_of_ble_eq_true rfl)) dX6_reset_50 ⟨(Nat.le_of_ble_eq_true rfl), (Nat.le_of_ble_eq_true rfl)⟩) hP hD hS hA [6, 5] [0, 1, 2, 3, 4] rfl rfl (by decide) (by decide) (fun u6 H locs hP hD hS => ?_)
  have hP : va_P g.1 vwCl [(q12, .inl (g.2 0, 40, .inl (upd (upd (upd (upd (upd (upd (upd (upd (fillF 40 0 f13) 4 1) 9 1) 14 1) 19 1) 24 1) 29 1) 34 1) 39 1))), (q9, .inr (5, [w10, .ref q12])), (q20, .inl (g.2 0, 10, .inl f23)), (q19, .inl (g.2 0, 10, .inl f21)), (q14, .inr (9, [.ref q19, .ref q20, .int 1, .int 0])), (q1, .inr (8, [.ref q9, .ref q14, w4, .ref q25, .int 0, .int 4, .int 0])), (q25, .inl (g.2 0, 20, .inl (upd (upd (upd (upd f26 2 100) 4 5) 7 100) 9 5)))] H := hP
  have hD : va_D A [(q12, .inl (g.2 0, 40, .inl (upd (upd (upd (upd (upd (upd (upd (upd (fillF 40 0 f13) 4 1) 9 1) 14 1) 19 1) 24 1) 29 1) 34 1) 39 1))), (q9, .inr (5, [w10, .ref q12])), (q20, .inl (g.2 0, 10, .inl f23)), (q19, .inl (g.2 0, 10, .inl f21)), (q14, .inr (9, [.ref q19, .ref q20, .int 1, .int 0])), (q1, .inr (8, [.ref q9, .ref q14, w4, .ref q25, .int 0, .int 4, .int 0])), (q25, .inl (g.2 0, 20, .inl (upd (upd (upd (upd f26 2 100) 4 5) 7 100) 9 5)))] := hD
  refine lv_iinc (v := 2) (lv' := [(1, .int 2), (0, .ref q1)]) hx hb dX6_reset_53 hl (k := 0) rfl (by decide) (by decide) rfl (fun ls hl => ?_)
  refine lv_goto (tgt := 31) hx hb dX6_reset_56 (by decide) ?_
  refine lv_iload_n hx hb dX6_reset_31 rfl (lv_at hl 0 rfl) ?_
  refine lv_iconst (v := 4) hx hb dX6_reset_32 (by decide) ?_
  refine lv_icmp_ge (tgt := 59) hx hb dX6_reset_33 (by decide) (fun h => absurd h (by decide)) (fun _ => ?_)
  refine lv_aload_n hx hb dX6_reset_36 rfl (lv_at hl 1 rfl) ?_
  refine lv_iload_n hx hb dX6_reset_37 rfl (lv_at hl 0 rfl) ?_
  refine lv_iconst (v := 0) hx hb dX6_reset_38 (by decide) ?_
  refine lv_iconst (v := 0) hx hb dX6_reset_39 (by decide) ?_
  refine lv_bipush (v := 100) hx hb dX6_reset_40 (by decide) ?_
  refine lv_iconst (v := 0) hx hb dX6_reset_42 (by decide) ?_
  refine g_v (wr := [(q12, .inl (g.2 0, 40, .inl (upd (upd (upd (upd (upd (upd (upd (upd (fillF 40 0 f13) 4 1) 9 1) 14 1) 19 1) 24 1) 29 1) 34 1) 39 1))), (q9, .inr (5, [w10, .ref q12])), (q20, .inl (g.2 0, 10, .inl f23)), (q19, .inl (g.2 0, 10, .inl f21)), (q14, .inr (9, [.ref q19, .ref q20, .int 1, .int 0]))]) (rV (rest := []) hx hb hml hown hE hP hD 5 rfl rfl (c43_X6_putEnvelope l g q1 q25 (.ref q9) (.ref q14) w4 (.int 0) (.int 4) (.int 0) (upd (upd (upd (upd f26 2 100) 4 5) 7 100) 9 5) (((pk_un (by decide)).trans ((pk_un (by decide)).trans ((pk_un (by decide)).trans ((pk_un (by decide)).trans hf33))))) (((pk_un (by decide)).trans ((pk_un (by decide)).trans ((pk_un (by decide)).trans ((pk_un (by decide)).trans hf34))))) (((pk_un (by decide)).trans ((pk_un (by decide)).trans ((pk_un (by decide)).trans ((pk_un (by decide)).trans hf35))))) H.size) (kV_X6_putEnvelope hE (e99 hE) rfl rfl ⟨(Nat.le_of_ble_eq_true rfl), (Nat.le_of_ble_eq_true rfl)⟩) [6, 5] rfl (by decide) rfl hl.1 rfl (lv_room (Nat.le_of_ble_eq_true rfl)) dX6_reset_43 ⟨(Nat.le_of_ble_eq_true rfl), (Nat.le_of_ble_eq_true rfl)⟩) hP hD hS hA [6, 5] [0, 1, 2, 3, 4] rfl rfl (by decide) (by decide) (fun u7 H locs hP hD hS => ?_)
  have hP : va_P g.1 vwCl [(q12, .inl (g.2 0, 40, .inl (upd (upd (upd (upd (upd (upd (upd (upd (fillF 40 0 f13) 4 1) 9 1) 14 1) 19 1) 24 1) 29 1) 34 1) 39 1))), (q9, .inr (5, [w10, .ref q12])), (q20, .inl (g.2 0, 10, .inl f23)), (q19, .inl (g.2 0, 10, .inl f21)), (q14, .inr (9, [.ref q19, .ref q20, .int 1, .int 0])), (q1, .inr (8, [.ref q9, .ref q14, w4, .ref q25, .int 0, .int 4, .int 0])), (q25, .inl (g.2 0, 20, .inl (upd (upd (upd (upd (upd f26 2 100) 4 5) 7 100) 9 5) 12 100)))] H := hP
  have hD : va_D A [(q12, .inl (g.2 0, 40, .inl (upd (upd (upd (upd (upd (upd (upd (upd (fillF 40 0 f13) 4 1) 9 1) 14 1) 19 1) 24 1) 29 1) 34 1) 39 1))), (q9, .inr (5, [w10, .ref q12])), (q20, .inl (g.2 0, 10, .inl f23)), (q19, .inl (g.2 0, 10, .inl f21)), (q14, .inr (9, [.ref q19, .ref q20, .int 1, .int 0])), (q1, .inr (8, [.ref q9, .ref q14, w4, .ref q25, .int 0, .int 4, .int 0])), (q25, .inl (g.2 0, 20, .inl (upd (upd (upd (upd (upd f26 2 100) 4 5) 7 100) 9 5) 12 100)))] := hD
  refine lv_aload_n hx hb dX6_reset_46 rfl (lv_at hl 1 rfl) ?_
  refine lv_iload_n hx hb dX6_reset_47 rfl (lv_at hl 0 rfl) ?_
  refine lv_iconst (v := 4) hx hb dX6_reset_48 (by decide) ?_
  refine lv_iconst (v := 5) hx hb dX6_reset_49 (by decide) ?_
  refine g_v (wr := [(q12, .inl (g.2 0, 40, .inl (upd (upd (upd (upd (upd (upd (upd (upd (fillF 40 0 f13) 4 1) 9 1) 14 1) 19 1) 24 1) 29 1) 34 1) 39 1))), (q9, .inr (5, [w10, .ref q12])), (q20, .inl (g.2 0, 10, .inl f23)), (q19, .inl (g.2 0, 10, .inl f21)), (q14, .inr (9, [.ref q19, .ref q20, .int 1, .int 0]))]) (rV (rest := []) hx hb hml hown hE hP hD 5 rfl rfl (c45_X6_putInstrumentNumber l g q1 q25 (.ref q9) (.ref q14) w4 (.int 0) (.int 4) (.int 0) (upd (upd (upd (upd (upd f26 2 100) 4 5) 7 100) 9 5) 12 100) H.size) (kV_X6_putInstrumentNumber hE (e103 hE) rfl rfl ⟨(Nat.le_of_ble_eq_true rfl), (Nat.le_of_ble_eq_true rfl)⟩) [6, 5] rfl (by decide) rfl hl.1 rfl (lv_room (Nat.le_of_ble_eq_true rfl)) dX6_reset_50 ⟨(Nat.le_of_ble_eq_true rfl), (Nat.le_of_ble_eq_true rfl)⟩) hP hD hS hA [6, 5] [0, 1, 2, 3, 4] rfl rfl (by decide) (by decide) (fun u8 H locs hP hD hS => ?_)
  have hP : va_P g.1 vwCl [(q12, .inl (g.2 0, 40, .inl (upd (upd (upd (upd (upd (upd (upd (upd (fillF 40 0 f13) 4 1) 9 1) 14 1) 19 1) 24 1) 29 1) 34 1) 39 1))), (q9, .inr (5, [w10, .ref q12])), (q20, .inl (g.2 0, 10, .inl f23)), (q19, .inl (g.2 0, 10, .inl f21)), (q14, .inr (9, [.ref q19, .ref q20, .int 1, .int 0])), (q1, .inr (8, [.ref q9, .ref q14, w4, .ref q25, .int 0, .int 4, .int 0])), (q25, .inl (g.2 0, 20, .inl (upd (upd (upd (upd (upd (upd f26 2 100) 4 5) 7 100) 9 5) 12 100) 14 5)))] H := hP
  have hD : va_D A [(q12, .inl (g.2 0, 40, .inl (upd (upd (upd (upd (upd (upd (upd (upd (fillF 40 0 f13) 4 1) 9 1) 14 1) 19 1) 24 1) 29 1) 34 1) 39 1))), (q9, .inr (5, [w10, .ref q12])), (q20, .inl (g.2 0, 10, .inl f23)), (q19, .inl (g.2 0, 10, .inl f21)), (q14, .inr (9, [.ref q19, .ref q20, .int 1, .int 0])), (q1, .inr (8, [.ref q9, .ref q14, w4, .ref q25, .int 0, .int 4, .int 0])), (q25, .inl (g.2 0, 20, .inl (upd (upd (upd (upd (upd (upd f26 2 100) 4 5) 7 100) 9 5) 12 100) 14 5)))] := hD
  refine lv_iinc (v := 3) (lv' := [(1, .int 3), (0, .ref q1)]) hx hb dX6_reset_53 hl (k := 0) rfl (by decide) (by decide) rfl (fun ls hl => ?_)
  refine lv_goto (tgt := 31) hx hb dX6_reset_56 (by decide) ?_
  refine lv_iload_n hx hb dX6_reset_31 rfl (lv_at hl 0 rfl) ?_
  refine lv_iconst (v := 4) hx hb dX6_reset_32 (by decide) ?_
  refine lv_icmp_ge (tgt := 59) hx hb dX6_reset_33 (by decide) (fun h => absurd h (by decide)) (fun _ => ?_)
  refine lv_aload_n hx hb dX6_reset_36 rfl (lv_at hl 1 rfl) ?_
  refine lv_iload_n hx hb dX6_reset_37 rfl (lv_at hl 0 rfl) ?_
  refine lv_iconst (v := 0) hx hb dX6_reset_38 (by decide) ?_
  refine lv_iconst (v := 0) hx hb dX6_reset_39 (by decide) ?_
  refine lv_bipush (v := 100) hx hb dX6_reset_40 (by decide) ?_
  refine lv_iconst (v := 0) hx hb dX6_reset_42 (by decide) ?_
  refine g_v (wr := [(q12, .inl (g.2 0, 40, .inl (upd (upd (upd (upd (upd (upd (upd (upd (fillF 40 0 f13) 4 1) 9 1) 14 1) 19 1) 24 1) 29 1) 34 1) 39 1))), (q9, .inr (5, [w10, .ref q12])), (q20, .inl (g.2 0, 10, .inl f23)), (q19, .inl (g.2 0, 10, .inl f21)), (q14, .inr (9, [.ref q19, .ref q20, .int 1, .int 0]))]) (rV (rest := []) hx hb hml hown hE hP hD 5 rfl rfl (c54_X6_putEnvelope l g q1 q25 (.ref q9) (.ref q14) w4 (.int 0) (.int 4) (.int 0) (upd (upd (upd (upd (upd (upd f26 2 100) 4 5) 7 100) 9 5) 12 100) 14 5) (((pk_un (by decide)).trans ((pk_un (by decide)).trans ((pk_un (by decide)).trans ((pk_un (by decide)).trans ((pk_un (by decide)).trans ((pk_un (by decide)).trans hf36))))))) (((pk_un (by decide)).trans ((pk_un (by decide)).trans ((pk_un (by decide)).trans ((pk_un (by decide)).trans ((pk_un (by decide)).trans ((pk_un (by decide)).trans hf37))))))) (((pk_un (by decide)).trans ((pk_un (by decide)).trans ((pk_un (by decide)).trans ((pk_un (by decide)).trans ((pk_un (by decide)).trans ((pk_un (by decide)).trans hf38))))))) H.size) (kV_X6_putEnvelope hE (e99 hE) rfl rfl ⟨(Nat.le_of_ble_eq_true rfl), (Nat.le_of_ble_eq_true rfl)⟩) [6, 5] rfl (by decide) rfl hl.1 rfl (lv_room (Nat.le_of_ble_eq_true rfl)) dX6_reset_43 ⟨(Nat.le_of_ble_eq_true rfl), (Nat.le_of_ble_eq_true rfl)⟩) hP hD hS hA [6, 5] [0, 1, 2, 3, 4] rfl rfl (by decide) (by decide) (fun u9 H locs hP hD hS => ?_)
  have hP : va_P g.1 vwCl [(q12, .inl (g.2 0, 40, .inl (upd (upd (upd (upd (upd (upd (upd (upd (fillF 40 0 f13) 4 1) 9 1) 14 1) 19 1) 24 1) 29 1) 34 1) 39 1))), (q9, .inr (5, [w10, .ref q12])), (q20, .inl (g.2 0, 10, .inl f23)), (q19, .inl (g.2 0, 10, .inl f21)), (q14, .inr (9, [.ref q19, .ref q20, .int 1, .int 0])), (q1, .inr (8, [.ref q9, .ref q14, w4, .ref q25, .int 0, .int 4, .int 0])), (q25, .inl (g.2 0, 20, .inl (upd (upd (upd (upd (upd (upd (upd f26 2 100) 4 5) 7 100) 9 5) 12 100) 14 5) 17 100)))] H := hP
  have hD : va_D A [(q12, .inl (g.2 0, 40, .inl (upd (upd (upd (upd (upd (upd (upd (upd (fillF 40 0 f13) 4 1) 9 1) 14 1) 19 1) 24 1) 29 1) 34 1) 39 1))), (q9, .inr (5, [w10, .ref q12])), (q20, .inl (g.2 0, 10, .inl f23)), (q19, .inl (g.2 0, 10, .inl f21)), (q14, .inr (9, [.ref q19, .ref q20, .int 1, .int 0])), (q1, .inr (8, [.ref q9, .ref q14, w4, .ref q25, .int 0, .int 4, .int 0])), (q25, .inl (g.2 0, 20, .inl (upd (upd (upd (upd (upd (upd (upd f26 2 100) 4 5) 7 100) 9 5) 12 100) 14 5) 17 100)))] := hD
  refine lv_aload_n hx hb dX6_reset_46 rfl (lv_at hl 1 rfl) ?_
  refine lv_iload_n hx hb dX6_reset_47 rfl (lv_at hl 0 rfl) ?_
  refine lv_iconst (v := 4) hx hb dX6_reset_48 (by decide) ?_
  refine lv_iconst (v := 5) hx hb dX6_reset_49 (by decide) ?_
  refine g_v (wr := [(q12, .inl (g.2 0, 40, .inl (upd (upd (upd (upd (upd (upd (upd (upd (fillF 40 0 f13) 4 1) 9 1) 14 1) 19 1) 24 1) 29 1) 34 1) 39 1))), (q9, .inr (5, [w10, .ref q12])), (q20, .inl (g.2 0, 10, .inl f23)), (q19, .inl (g.2 0, 10, .inl f21)), (q14, .inr (9, [.ref q19, .ref q20, .int 1, .int 0]))]) (rV (rest := []) hx hb hml hown hE hP hD 5 rfl rfl (c56_X6_putInstrumentNumber l g q1 q25 (.ref q9) (.ref q14) w4 (.int 0) (.int 4) (.int 0) (upd (upd (upd (upd (upd (upd (upd f26 2 100) 4 5) 7 100) 9 5) 12 100) 14 5) 17 100) H.size) (kV_X6_putInstrumentNumber hE (e103 hE) rfl rfl ⟨(Nat.le_of_ble_eq_true rfl), (Nat.le_of_ble_eq_true rfl)⟩) [6, 5] rfl (by decide) rfl hl.1 rfl (lv_room (Nat.le_of_ble_eq_true rfl)) dX6_reset_50 ⟨(Nat.le_of_ble_eq_true rfl), (Nat.le_of_ble_eq_true rfl)⟩) hP hD hS hA [6, 5] [0, 1, 2, 3, 4] rfl rfl (by decide) (by decide) (fun u10 H locs hP hD hS => ?_)
  have hP : va_P g.1 vwCl [(q12, .inl (g.2 0, 40, .inl (upd (upd (upd (upd (upd (upd (upd (upd (fillF 40 0 f13) 4 1) 9 1) 14 1) 19 1) 24 1) 29 1) 34 1) 39 1))), (q9, .inr (5, [w10, .ref q12])), (q20, .inl (g.2 0, 10, .inl f23)), (q19, .inl (g.2 0, 10, .inl f21)), (q14, .inr (9, [.ref q19, .ref q20, .int 1, .int 0])), (q1, .inr (8, [.ref q9, .ref q14, w4, .ref q25, .int 0, .int 4, .int 0])), (q25, .inl (g.2 0, 20, .inl (upd (upd (upd (upd (upd (upd (upd (upd f26 2 100) 4 5) 7 100) 9 5) 12 100) 14 5) 17 100) 19 5)))] H := hP
  have hD : va_D A [(q12, .inl (g.2 0, 40, .inl (upd (upd (upd (upd (upd (upd (upd (upd (fillF 40 0 f13) 4 1) 9 1) 14 1) 19 1) 24 1) 29 1) 34 1) 39 1))), (q9, .inr (5, [w10, .ref q12])), (q20, .inl (g.2 0, 10, .inl f23)), (q19, .inl (g.2 0, 10, .inl f21)), (q14, .inr (9, [.ref q19, .ref q20, .int 1, .int 0])), (q1, .inr (8, [.ref q9, .ref q14, w4, .ref q25, .int 0, .int 4, .int 0])), (q25, .inl (g.2 0, 20, .inl (upd (upd (upd (upd (upd (upd (upd (upd f26 2 100) 4 5) 7 100) 9 5) 12 100) 14 5) 17 100) 19 5)))] := hD
  refine lv_iinc (v := 4) (lv' := [(1, .int 4), (0, .ref q1)]) hx hb dX6_reset_53 hl (k := 0) rfl (by decide) (by decide) rfl (fun ls hl => ?_)
  refine lv_goto (tgt := 31) hx hb dX6_reset_56 (by decide) ?_
  refine lv_iload_n hx hb dX6_reset_31 rfl (lv_at hl 0 rfl) ?_
  refine lv_iconst (v := 4) hx hb dX6_reset_32 (by decide) ?_
  refine lv_icmp_ge (tgt := 59) hx hb dX6_reset_33 (by decide) (fun _ => ?_) (fun h => absurd (by decide) h)
  exact x_vret hx hb hr hlocks hP hD hS hAe hsz (Nat.le_of_ble_eq_true rfl) (Nat.le_of_ble_eq_true rfl) (fun _ => 0) [0, 1, 2, 3, 4, 5, 6] (by decide) rfl dX6_reset_59

set_option maxHeartbeats 4000000 in
set_option maxRecDepth 100000 in
theorem c75_X8_forget (l : Launch) (g : gG) (q1 : Nat) (w2 w3 w4 : Value) (sz : Nat) : Met l yX8_forget [Cond.code yX8_forget cX8_forget 1 none] ({ frames := 0, cells := 0, slots := 0, locals := 0 } : Room) (va_Pc [.ref q1] (PX g sz [(q1, .inr (10, [w2, w3, w4]))])) (QV g [(q1, .inr (10, [w2, w3, w4]))] sz (fun _ => [(q1, .inr (10, [w2, w3, .int 0]))])) 0 0 (va_A [(q1, .inr (10, [w2, w3, w4]))] sz) := by
  refine ofN (by decide) (Nat.le_of_ble_eq_true rfl) rfl ?_
  intro p e s m args below meth c A ls hAe hsz hx hb hml hr hlocks hin hown hE hP hD hA hS hl
  have hown : s.vm.findClass RX8 = some m.cls := hown
  refine lv_aload_n hx hb dX8_forget_0 rfl (lv_at hl 0 rfl) ?_
  refine lv_iconst (v := 0) hx hb dX8_forget_1 (by decide) ?_
  refine pf_RX8_21 (ws' := [(q1, .inr (10, [w2, w3, .int 0]))]) hx hb hown hE hP hD hS 0 rfl rfl rfl (Nat.le_of_ble_eq_true rfl) dX8_forget_2 rfl (fun H locs hP hD hS => ?_)
  exact x_vret hx hb hr hlocks hP hD hS hAe hsz (Nat.le_of_ble_eq_true rfl) (Nat.le_of_ble_eq_true rfl) (fun _ => 0) [0] (by decide) rfl dX8_forget_5

set_option maxHeartbeats 4000000 in
set_option maxRecDepth 100000 in
theorem c76_X9_outdate (l : Launch) (g : gG) (q1 : Nat) (w2 w3 w4 w5 w6 w7 w8 w9 w10 w11 w12 : Value) (sz : Nat) : Met l yX9_outdate [Cond.code yX9_outdate cX9_outdate 1 none] ({ frames := 0, cells := 0, slots := 0, locals := 0 } : Room) (va_Pc [.ref q1] (PX g sz [(q1, .inr (11, [w2, w3, w4, w5, w6, w7, w8, w9, w10, w11, w12]))])) (QV g [(q1, .inr (11, [w2, w3, w4, w5, w6, w7, w8, w9, w10, w11, w12]))] sz (fun _ => [(q1, .inr (11, [w2, w3, w4, w5, w6, w7, w8, w9, .int 0, .int 0, w12]))])) 0 0 (va_A [(q1, .inr (11, [w2, w3, w4, w5, w6, w7, w8, w9, w10, w11, w12]))] sz) := by
  refine ofN (by decide) (Nat.le_of_ble_eq_true rfl) rfl ?_
  intro p e s m args below meth c A ls hAe hsz hx hb hml hr hlocks hin hown hE hP hD hA hS hl
  have hown : s.vm.findClass RX9 = some m.cls := hown
  refine lv_aload_n hx hb dX9_outdate_0 rfl (lv_at hl 0 rfl) ?_
  refine lv_iconst (v := 0) hx hb dX9_outdate_1 (by decide) ?_
  refine pf_RX9_60 (ws' := [(q1, .inr (11, [w2, w3, w4, w5, w6, w7, w8, w9, .int 0, w11, w12]))]) hx hb hown hE hP hD hS 0 rfl rfl rfl (Nat.le_of_ble_eq_true rfl) dX9_outdate_2 rfl (fun H locs hP hD hS => ?_)
  refine lv_aload_n hx hb dX9_outdate_5 rfl (lv_at hl 0 rfl) ?_
  refine lv_iconst (v := 0) hx hb dX9_outdate_6 (by decide) ?_
  refine pf_RX9_63 (ws' := [(q1, .inr (11, [w2, w3, w4, w5, w6, w7, w8, w9, .int 0, .int 0, w12]))]) hx hb hown hE hP hD hS 0 rfl rfl rfl (Nat.le_of_ble_eq_true rfl) dX9_outdate_7 rfl (fun H locs hP hD hS => ?_)
  exact x_vret hx hb hr hlocks hP hD hS hAe hsz (Nat.le_of_ble_eq_true rfl) (Nat.le_of_ble_eq_true rfl) (fun _ => 0) [0] (by decide) rfl dX9_outdate_10

set_option maxHeartbeats 4000000 in
set_option maxRecDepth 100000 in
theorem c77_X2_empty (l : Launch) (g : gG) (q1 : Nat) (w2 w3 : Value) (sz : Nat) : Met l yX2_empty [Cond.code yX2_empty cX2_empty 1 none] ({ frames := 0, cells := 0, slots := 0, locals := 0 } : Room) (va_Pc [.ref q1] (PX g sz [(q1, .inr (4, [w2, w3]))])) (QV g [(q1, .inr (4, [w2, w3]))] sz (fun _ => [(q1, .inr (4, [w2, .int 0]))])) 0 0 (va_A [(q1, .inr (4, [w2, w3]))] sz) := by
  refine ofN (by decide) (Nat.le_of_ble_eq_true rfl) rfl ?_
  intro p e s m args below meth c A ls hAe hsz hx hb hml hr hlocks hin hown hE hP hD hA hS hl
  have hown : s.vm.findClass RX2 = some m.cls := hown
  refine lv_aload_n hx hb dX2_empty_0 rfl (lv_at hl 0 rfl) ?_
  refine lv_iconst (v := 0) hx hb dX2_empty_1 (by decide) ?_
  refine pf_RX2_7 (ws' := [(q1, .inr (4, [w2, .int 0]))]) hx hb hown hE hP hD hS 0 rfl rfl rfl (Nat.le_of_ble_eq_true rfl) dX2_empty_2 rfl (fun H locs hP hD hS => ?_)
  exact x_vret hx hb hr hlocks hP hD hS hAe hsz (Nat.le_of_ble_eq_true rfl) (Nat.le_of_ble_eq_true rfl) (fun _ => 0) [0] (by decide) rfl dX2_empty_5

set_option maxHeartbeats 4000000 in
set_option maxRecDepth 100000 in
theorem c78_X9_clear (l : Launch) (g : gG) (q1 q13 q17 q20 q28 q29 q30 q33 q51 q52 q70 : Nat) (w3 w4 w5 w7 w8 w9 w10 w11 w12 w16 w23 w26 w27 w31 w49 w50 w71 w72 : Value) (f18 : Nat → Option Nat) (f34 : Nat → Int32) (f53 : Nat → Int32) (f55 : Nat → Int32) (f57 : Nat → Int32) (hf19 : f18 0 = some q20) (hf35 : f34 0 = 0) (hf36 : f34 1 = 0) (hf37 : f34 3 = 0) (hf38 : f34 5 = 0) (hf39 : f34 6 = 0) (hf40 : f34 8 = 0) (hf41 : f34 10 = 0) (hf42 : f34 11 = 0) (hf43 : f34 13 = 0) (hf44 : f34 15 = 0) (hf45 : f34 16 = 0) (hf46 : f34 18 = 0) (hf54 : f53 0 = 0) (hf56 : f55 0 = 100) (hf58 : f57 0 = 0) (hf59 : f57 1 = 0) (hf60 : f57 3 = 0) (hf61 : f57 5 = 0) (hf62 : f57 6 = 0) (hf63 : f57 8 = 0) (hf64 : f57 10 = 0) (hf65 : f57 11 = 0) (hf66 : f57 13 = 0) (hf67 : f57 15 = 0) (hf68 : f57 16 = 0) (hf69 : f57 18 = 0) (sz : Nat) : Met l yX9_clear [Cond.code yX9_clear cX9_clear 3 (some .int)] ({ frames := 4, cells := 0, slots := 0, locals := 91 } : Room) (va_Pc [.ref q1] (PX g sz [(q70, .inr (4, [w71, w72])), (q30, .inl (g.2 0, 20, .inl f57)), (q52, .inl (g.2 0, 10, .inl f55)), (q51, .inl (g.2 0, 10, .inl f53)), (q29, .inr (9, [.ref q51, .ref q52, w49, w50])), (q33, .inl (g.2 0, 40, .inl f34)), (q28, .inr (5, [w31, .ref q33])), (q20, .inr (8, [.ref q28, .ref q29, w23, .ref q30, .int 0, w26, w27])), (q17, .inl (g.2 3, 10, .inr (.inr (.inr (.inr f18))))), (q13, .inr (10, [.ref q17, .int 0, w16])), (q1, .inr (11, [.ref q13, w3, w4, w5, .ref q70, w7, w8, w9, w10, w11, w12]))])) (QI g [(q70, .inr (4, [w71, w72])), (q30, .inl (g.2 0, 20, .inl f57)), (q52, .inl (g.2 0, 10, .inl f55)), (q51, .inl (g.2 0, 10, .inl f53)), (q29, .inr (9, [.ref q51, .ref q52, w49, w50])), (q33, .inl (g.2 0, 40, .inl f34)), (q28, .inr (5, [w31, .ref q33])), (q20, .inr (8, [.ref q28, .ref q29, w23, .ref q30, .int 0, w26, w27])), (q17, .inl (g.2 3, 10, .inr (.inr (.inr (.inr f18))))), (q13, .inr (10, [.ref q17, .int 0, w16])), (q1, .inr (11, [.ref q13, w3, w4, w5, .ref q70, w7, w8, w9, w10, w11, w12]))] sz 0 (fun _ => [])) 0 0 (va_A [(q70, .inr (4, [w71, w72])), (q30, .inl (g.2 0, 20, .inl f57)), (q52, .inl (g.2 0, 10, .inl f55)), (q51, .inl (g.2 0, 10, .inl f53)), (q29, .inr (9, [.ref q51, .ref q52, w49, w50])), (q33, .inl (g.2 0, 40, .inl f34)), (q28, .inr (5, [w31, .ref q33])), (q20, .inr (8, [.ref q28, .ref q29, w23, .ref q30, .int 0, w26, w27])), (q17, .inl (g.2 3, 10, .inr (.inr (.inr (.inr f18))))), (q13, .inr (10, [.ref q17, .int 0, w16])), (q1, .inr (11, [.ref q13, w3, w4, w5, .ref q70, w7, w8, w9, w10, w11, w12]))] sz) := by
  refine ofN (by decide) (Nat.le_of_ble_eq_true rfl) rfl ?_
  intro p e s m args below meth c A ls hAe hsz hx hb hml hr hlocks hin hown hE hP hD hA hS hl
  have hown : s.vm.findClass RX9 = some m.cls := hown
  refine lv_aload_n hx hb dX9_clear_0 rfl (lv_at hl 0 rfl) ?_
  refine gf_RX9_12 hx hb hown hE hP 10 rfl rfl dX9_clear_1 ?_
  refine g_r (wr := [(q70, .inr (4, [w71, w72])), (q30, .inl (g.2 0, 20, .inl f57)), (q52, .inl (g.2 0, 10, .inl f55)), (q51, .inl (g.2 0, 10, .inl f53)), (q29, .inr (9, [.ref q51, .ref q52, w49, w50])), (q33, .inl (g.2 0, 40, .inl f34)), (q28, .inr (5, [w31, .ref q33])), (q20, .inr (8, [.ref q28, .ref q29, w23, .ref q30, .int 0, w26, w27])), (q1, .inr (11, [.ref q13, w3, w4, w5, .ref q70, w7, w8, w9, w10, w11, w12]))]) (rV (rest := []) hx hb hml hown hE hP hD 9 rfl rfl (c71_X8_current l g q13 q17 q20 w16 f18 (hf19) s.heap.size) (kV_X8_current hE (e290 hE) rfl rfl ⟨(Nat.le_of_ble_eq_true rfl), (Nat.le_of_ble_eq_true rfl)⟩) [8, 9] rfl (by decide) rfl hl.1 rfl (lv_room (Nat.le_of_ble_eq_true rfl)) dX9_clear_4 ⟨(Nat.le_of_ble_eq_true rfl), (Nat.le_of_ble_eq_true rfl)⟩) hP hD hS hA [8, 9] [0, 1, 2, 3, 4, 5, 6, 7, 10] rfl rfl (by decide) (by decide) (fun u1 H locs hP hD hS => ?_)
  have hP : va_P g.1 vwCl [(q70, .inr (4, [w71, w72])), (q30, .inl (g.2 0, 20, .inl f57)), (q52, .inl (g.2 0, 10, .inl f55)), (q51, .inl (g.2 0, 10, .inl f53)), (q29, .inr (9, [.ref q51, .ref q52, w49, w50])), (q33, .inl (g.2 0, 40, .inl f34)), (q28, .inr (5, [w31, .ref q33])), (q20, .inr (8, [.ref q28, .ref q29, w23, .ref q30, .int 0, w26, w27])), (q1, .inr (11, [.ref q13, w3, w4, w5, .ref q70, w7, w8, w9, w10, w11, w12])), (q17, .inl (g.2 3, 10, .inr (.inr (.inr (.inr f18))))), (q13, .inr (10, [.ref q17, .int 0, w16]))] H := hP
  have hD : va_D A [(q70, .inr (4, [w71, w72])), (q30, .inl (g.2 0, 20, .inl f57)), (q52, .inl (g.2 0, 10, .inl f55)), (q51, .inl (g.2 0, 10, .inl f53)), (q29, .inr (9, [.ref q51, .ref q52, w49, w50])), (q33, .inl (g.2 0, 40, .inl f34)), (q28, .inr (5, [w31, .ref q33])), (q20, .inr (8, [.ref q28, .ref q29, w23, .ref q30, .int 0, w26, w27])), (q1, .inr (11, [.ref q13, w3, w4, w5, .ref q70, w7, w8, w9, w10, w11, w12])), (q17, .inl (g.2 3, 10, .inr (.inr (.inr (.inr f18))))), (q13, .inr (10, [.ref q17, .int 0, w16]))] := hD
  refine lv_astore_n (lv' := [(1, .ref q20), (0, .ref q1)]) hx hb dX9_clear_7 rfl hl (by decide) rfl (fun ls hl => ?_)
  refine lv_aload_n hx hb dX9_clear_8 rfl (lv_at hl 0 rfl) ?_
  refine g_i (wr := [(q70, .inr (4, [w71, w72])), (q30, .inl (g.2 0, 20, .inl f57)), (q52, .inl (g.2 0, 10, .inl f55)), (q51, .inl (g.2 0, 10, .inl f53)), (q29, .inr (9, [.ref q51, .ref q52, w49, w50])), (q33, .inl (g.2 0, 40, .inl f34)), (q28, .inr (5, [w31, .ref q33])), (q1, .inr (11, [.ref q13, w3, w4, w5, .ref q70, w7, w8, w9, w10, w11, w12])), (q17, .inl (g.2 3, 10, .inr (.inr (.inr (.inr f18))))), (q13, .inr (10, [.ref q17, .int 0, w16]))]) (rV (rest := []) hx hb hml hown hE hP hD 7 rfl rfl (c72_X6_clipCount l g q20 (.ref q28) (.ref q29) w23 (.ref q30) w26 w27 H.size) (kV_X6_clipCount hE (e297 hE) rfl rfl ⟨(Nat.le_of_ble_eq_true rfl), (Nat.le_of_ble_eq_true rfl)⟩) [7] rfl (by decide) rfl hl.1 rfl (lv_room (Nat.le_of_ble_eq_true rfl)) dX9_clear_9 ⟨(Nat.le_of_ble_eq_true rfl), (Nat.le_of_ble_eq_true rfl)⟩) hP hD hS hA [7] [0, 1, 2, 3, 4, 5, 6, 8, 9, 10] rfl rfl (by decide) (by decide) (fun u2 H locs hP hD hS => ?_)
  have hP : va_P g.1 vwCl [(q70, .inr (4, [w71, w72])), (q30, .inl (g.2 0, 20, .inl f57)), (q52, .inl (g.2 0, 10, .inl f55)), (q51, .inl (g.2 0, 10, .inl f53)), (q29, .inr (9, [.ref q51, .ref q52, w49, w50])), (q33, .inl (g.2 0, 40, .inl f34)), (q28, .inr (5, [w31, .ref q33])), (q1, .inr (11, [.ref q13, w3, w4, w5, .ref q70, w7, w8, w9, w10, w11, w12])), (q17, .inl (g.2 3, 10, .inr (.inr (.inr (.inr f18))))), (q13, .inr (10, [.ref q17, .int 0, w16])), (q20, .inr (8, [.ref q28, .ref q29, w23, .ref q30, .int 0, w26, w27]))] H := hP
  have hD : va_D A [(q70, .inr (4, [w71, w72])), (q30, .inl (g.2 0, 20, .inl f57)), (q52, .inl (g.2 0, 10, .inl f55)), (q51, .inl (g.2 0, 10, .inl f53)), (q29, .inr (9, [.ref q51, .ref q52, w49, w50])), (q33, .inl (g.2 0, 40, .inl f34)), (q28, .inr (5, [w31, .ref q33])), (q1, .inr (11, [.ref q13, w3, w4, w5, .ref q70, w7, w8, w9, w10, w11, w12])), (q17, .inl (g.2 3, 10, .inr (.inr (.inr (.inr f18))))), (q13, .inr (10, [.ref q17, .int 0, w16])), (q20, .inr (8, [.ref q28, .ref q29, w23, .ref q30, .int 0, w26, w27]))] := hD
  refine lv_istore_n (lv' := [(2, .int 0), (1, .ref q20), (0, .ref q1)]) hx hb dX9_clear_12 rfl hl (by decide) rfl (fun ls hl => ?_)
  refine lv_aload_n hx hb dX9_clear_13 rfl (lv_at hl 1 rfl) ?_
  refine g_v (wr := [(q70, .inr (4, [w71, w72])), (q1, .inr (11, [.ref q13, w3, w4, w5, .ref q70, w7, w8, w9, w10, w11, w12])), (q17, .inl (g.2 3, 10, .inr (.inr (.inr (.inr f18))))), (q13, .inr (10, [.ref q17, .int 0, w16]))]) (rV (rest := []) hx hb hml hown hE hP hD 10 rfl rfl (c74_X6_reset l g q20 q28 q33 q29 q51 q52 q30 w23 (.int 0) w26 w27 w31 w49 w50 f34 f53 f55 f57 (hf54) (hf56) (hf58) (hf59) (hf60) (hf61) (hf62) (hf63) (hf64) (hf65) (hf66) (hf67) (hf68) (hf69) H.size) (kV_X6_reset hE (e301 hE) rfl rfl ⟨(Nat.le_of_ble_eq_true rfl), (Nat.le_of_ble_eq_true rfl)⟩) [1, 2, 3, 4, 5, 6, 10] rfl (by decide) rfl hl.1 rfl (lv_room (Nat.le_of_ble_eq_true rfl)) dX9_clear_14 ⟨(Nat.le_of_ble_eq_true rfl), (Nat.le_of_ble_eq_true rfl)⟩) hP hD hS hA [1, 2, 3, 4, 5, 6, 10] [0, 7, 8, 9] rfl rfl (by decide) (by decide) (fun u3 H locs hP hD hS => ?_)
  have hP : va_P g.1 vwCl [(q70, .inr (4, [w71, w72])), (q1, .inr (11, [.ref q13, w3, w4, w5, .ref q70, w7, w8, w9, w10, w11, w12])), (q17, .inl (g.2 3, 10, .inr (.inr (.inr (.inr f18))))), (q13, .inr (10, [.ref q17, .int 0, w16])), (q33, .inl (g.2 0, 40, .inl (upd (upd (upd (upd (upd (upd (upd (upd (fillF 40 0 f34) 4 1) 9 1) 14 1) 19 1) 24 1) 29 1) 34 1) 39 1))), (q28, .inr (5, [w31, .ref q33])), (q52, .inl (g.2 0, 10, .inl f55)), (q51, .inl (g.2 0, 10, .inl f53)), (q29, .inr (9, [.ref q51, .ref q52, .int 1, .int 0])), (q20, .inr (8, [.ref q28, .ref q29, w23, .ref q30, .int 0, .int 4, .int 0])), (q30, .inl (g.2 0, 20, .inl (upd (upd (upd (upd (upd (upd (upd (upd f57 2 100) 4 5) 7 100) 9 5) 12 100) 14 5) 17 100) 19 5)))] H := hP
  have hD : va_D A [(q70, .inr (4, [w71, w72])), (q1, .inr (11, [.ref q13, w3, w4, w5, .ref q70, w7, w8, w9, w10, w11, w12])), (q17, .inl (g.2 3, 10, .inr (.inr (.inr (.inr f18))))), (q13, .inr (10, [.ref q17, .int 0, w16])), (q33, .inl (g.2 0, 40, .inl (upd (upd (upd (upd (upd (upd (upd (upd (fillF 40 0 f34) 4 1) 9 1) 14 1) 19 1) 24 1) 29 1) 34 1) 39 1))), (q28, .inr (5, [w31, .ref q33])), (q52, .inl (g.2 0, 10, .inl f55)), (q51, .inl (g.2 0, 10, .inl f53)), (q29, .inr (9, [.ref q51, .ref q52, .int 1, .int 0])), (q20, .inr (8, [.ref q28, .ref q29, w23, .ref q30, .int 0, .int 4, .int 0])), (q30, .inl (g.2 0, 20, .inl (upd (upd (upd (upd (upd (upd (upd (upd f57 2 100) 4 5) 7 100) 9 5) 12 100) 14 5) 17 100) 19 5)))] := hD
  refine lv_aload_n hx hb dX9_clear_17 rfl (lv_at hl 2 rfl) ?_
  refine gf_RX9_12 hx hb hown hE hP 1 rfl rfl dX9_clear_18 ?_
  refine g_v (wr := [(q70, .inr (4, [w71, w72])), (q1, .inr (11, [.ref q13, w3, w4, w5, .ref q70, w7, w8, w9, w10, w11, w12])), (q17, .inl (g.2 3, 10, .inr (.inr (.inr (.inr f18))))), (q33, .inl (g.2 0, 40, .inl (upd (upd (upd (upd (upd (upd (upd (upd (fillF 40 0 f34) 4 1) 9 1) 14 1) 19 1) 24 1) 29 1) 34 1) 39 1))), (q28, .inr (5, [w31, .ref q33])), (q52, .inl (g.2 0, 10, .inl f55)), (q51, .inl (g.2 0, 10, .inl f53)), (q29, .inr (9, [.ref q51, .ref q52, .int 1, .int 0])), (q20, .inr (8, [.ref q28, .ref q29, w23, .ref q30, .int 0, .int 4, .int 0])), (q30, .inl (g.2 0, 20, .inl (upd (upd (upd (upd (upd (upd (upd (upd f57 2 100) 4 5) 7 100) 9 5) 12 100) 14 5) 17 100) 19 5)))]) (rV (rest := []) hx hb hml hown hE hP hD 3 rfl rfl (c75_X8_forget l g q13 (.ref q17) (.int 0) w16 H.size) (kV_X8_forget hE (e302 hE) rfl rfl ⟨(Nat.le_of_ble_eq_true rfl), (Nat.le_of_ble_eq_true rfl)⟩) [3] rfl (by decide) rfl hl.1 rfl (lv_room (Nat.le_of_ble_eq_true rfl)) dX9_clear_21 ⟨(Nat.le_of_ble_eq_true rfl), (Nat.le_of_ble_eq_true rfl)⟩) hP hD hS hA [3] [0, 1, 2, 4, 5, 6, 7, 8, 9, 10] rfl rfl (by decide) (by decide) (fun u4 H locs hP hD hS => ?_)
  have hP : va_P g.1 vwCl [(q70, .inr (4, [w71, w72])), (q1, .inr (11, [.ref q13, w3, w4, w5, .ref q70, w7, w8, w9, w10, w11, w12])), (q17, .inl (g.2 3, 10, .inr (.inr (.inr (.inr f18))))), (q33, .inl (g.2 0, 40, .inl (upd (upd (upd (upd (upd (upd (upd (upd (fillF 40 0 f34) 4 1) 9 1) 14 1) 19 1) 24 1) 29 1) 34 1) 39 1))), (q28, .inr (5, [w31, .ref q33])), (q52, .inl (g.2 0, 10, .inl f55)), (q51, .inl (g.2 0, 10, .inl f53)), (q29, .inr (9, [.ref q51, .ref q52, .int 1, .int 0])), (q20, .inr (8, [.ref q28, .ref q29, w23, .ref q30, .int 0, .int 4, .int 0])), (q30, .inl (g.2 0, 20, .inl (upd (upd (upd (upd (upd (upd (upd (upd f57 2 100) 4 5) 7 100) 9 5) 12 100) 14 5) 17 100) 19 5))), (q13, .inr (10, [.ref q17, .int 0, .int 0]))] H := hP
  have hD : va_D A [(q70, .inr (4, [w71, w72])), (q1, .inr (11, [.ref q13, w3, w4, w5, .ref q70, w7, w8, w9, w10, w11, w12])), (q17, .inl (g.2 3, 10, .inr (.inr (.inr (.inr f18))))), (q33, .inl (g.2 0, 40, .inl (upd (upd (upd (upd (upd (upd (upd (upd (fillF 40 0 f34) 4 1) 9 1) 14 1) 19 1) 24 1) 29 1) 34 1) 39 1))), (q28, .inr (5, [w31, .ref q33])), (q52, .inl (g.2 0, 10, .inl f55)), (q51, .inl (g.2 0, 10, .inl f53)), (q29, .inr (9, [.ref q51, .ref q52, .int 1, .int 0])), (q20, .inr (8, [.ref q28, .ref q29, w23, .ref q30, .int 0, .int 4, .int 0])), (q30, .inl (g.2 0, 20, .inl (upd (upd (upd (upd (upd (upd (upd (upd f57 2 100) 4 5) 7 100) 9 5) 12 100) 14 5) 17 100) 19 5))), (q13, .inr (10, [.ref q17, .int 0, .int 0]))] := hD
  refine lv_aload_n hx hb dX9_clear_24 rfl (lv_at hl 2 rfl) ?_
  refine g_v (wr := [(q70, .inr (4, [w71, w72])), (q17, .inl (g.2 3, 10, .inr (.inr (.inr (.inr f18))))), (q33, .inl (g.2 0, 40, .inl (upd (upd (upd (upd (upd (upd (upd (upd (fillF 40 0 f34) 4 1) 9 1) 14 1) 19 1) 24 1) 29 1) 34 1) 39 1))), (q28, .inr (5, [w31, .ref q33])), (q52, .inl (g.2 0, 10, .inl f55)), (q51, .inl (g.2 0, 10, .inl f53)), (q29, .inr (9, [.ref q51, .ref q52, .int 1, .int 0])), (q20, .inr (8, [.ref q28, .ref q29, w23, .ref q30, .int 0, .int 4, .int 0])), (q30, .inl (g.2 0, 20, .inl (upd (upd (upd (upd (upd (upd (upd (upd f57 2 100) 4 5) 7 100) 9 5) 12 100) 14 5) 17 100) 19 5))), (q13, .inr (10, [.ref q17, .int 0, .int 0]))]) (rV (rest := []) hx hb hml hown hE hP hD 1 rfl rfl (c76_X9_outdate l g q1 (.ref q13) w3 w4 w5 (.ref q70) w7 w8 w9 w10 w11 w12 H.size) (kV_X9_outdate hE (e306 hE) rfl rfl ⟨(Nat.le_of_ble_eq_true rfl), (Nat.le_of_ble_eq_true rfl)⟩) [1] rfl (by decide) rfl hl.1 rfl (lv_room (Nat.le_of_ble_eq_true rfl)) dX9_clear_25 ⟨(Nat.le_of_ble_eq_true rfl), (Nat.le_of_ble_eq_true rfl)⟩) hP hD hS hA [1] [0, 2, 3, 4, 5, 6, 7, 8, 9, 10] rfl rfl (by decide) (by decide) (fun u5 H locs hP hD hS => ?_)
  have hP : va_P g.1 vwCl [(q70, .inr (4, [w71, w72])), (q17, .inl (g.2 3, 10, .inr (.inr (.inr (.inr f18))))), (q33, .inl (g.2 0, 40, .inl (upd (upd (upd (upd (upd (upd (upd (upd (fillF 40 0 f34) 4 1) 9 1) 14 1) 19 1) 24 1) 29 1) 34 1) 39 1))), (q28, .inr (5, [w31, .ref q33])), (q52, .inl (g.2 0, 10, .inl f55)), (q51, .inl (g.2 0, 10, .inl f53)), (q29, .inr (9, [.ref q51, .ref q52, .int 1, .int 0])), (q20, .inr (8, [.ref q28, .ref q29, w23, .ref q30, .int 0, .int 4, .int 0])), (q30, .inl (g.2 0, 20, .inl (upd (upd (upd (upd (upd (upd (upd (upd f57 2 100) 4 5) 7 100) 9 5) 12 100) 14 5) 17 100) 19 5))), (q13, .inr (10, [.ref q17, .int 0, .int 0])), (q1, .inr (11, [.ref q13, w3, w4, w5, .ref q70, w7, w8, w9, .int 0, .int 0, w12]))] H := hP
  have hD : va_D A [(q70, .inr (4, [w71, w72])), (q17, .inl (g.2 3, 10, .inr (.inr (.inr (.inr f18))))), (q33, .inl (g.2 0, 40, .inl (upd (upd (upd (upd (upd (upd (upd (upd (fillF 40 0 f34) 4 1) 9 1) 14 1) 19 1) 24 1) 29 1) 34 1) 39 1))), (q28, .inr (5, [w31, .ref q33])), (q52, .inl (g.2 0, 10, .inl f55)), (q51, .inl (g.2 0, 10, .inl f53)), (q29, .inr (9, [.ref q51, .ref q52, .int 1, .int 0])), (q20, .inr (8, [.ref q28, .ref q29, w23, .ref q30, .int 0, .int 4, .int 0])), (q30, .inl (g.2 0, 20, .inl (upd (upd (upd (upd (upd (upd (upd (upd f57 2 100) 4 5) 7 100) 9 5) 12 100) 14 5) 17 100) 19 5))), (q13, .inr (10, [.ref q17, .int 0, .int 0])), (q1, .inr (11, [.ref q13, w3, w4, w5, .ref q70, w7, w8, w9, .int 0, .int 0, w12]))] := hD
  refine lv_aload_n hx hb dX9_clear_28 rfl (lv_at hl 2 rfl) ?_
  refine gf_RX9_42 hx hb hown hE hP 10 rfl rfl dX9_clear_29 ?_
  refine g_v (wr := [(q17, .inl (g.2 3, 10, .inr (.inr (.inr (.inr f18))))), (q33, .inl (g.2 0, 40, .inl (upd (upd (upd (upd (upd (upd (upd (upd (fillF 40 0 f34) 4 1) 9 1) 14 1) 19 1) 24 1) 29 1) 34 1) 39 1))), (q28, .inr (5, [w31, .ref q33])), (q52, .inl (g.2 0, 10, .inl f55)), (q51, .inl (g.2 0, 10, .inl f53)), (q29, .inr (9, [.ref q51, .ref q52, .int 1, .int 0])), (q20, .inr (8, [.ref q28, .ref q29, w23, .ref q30, .int 0, .int 4, .int 0])), (q30, .inl (g.2 0, 20, .inl (upd (upd (upd (upd (upd (upd (upd (upd f57 2 100) 4 5) 7 100) 9 5) 12 100) 14 5) 17 100) 19 5))), (q13, .inr (10, [.ref q17, .int 0, .int 0])), (q1, .inr (11, [.ref q13, w3, w4, w5, .ref q70, w7, w8, w9, .int 0, .int 0, w12]))]) (rV (rest := []) hx hb hml hown hE hP hD 0 rfl rfl (c77_X2_empty l g q70 w71 w72 H.size) (kV_X2_empty hE (e310 hE) rfl rfl ⟨(Nat.le_of_ble_eq_true rfl), (Nat.le_of_ble_eq_true rfl)⟩) [0] rfl (by decide) rfl hl.1 rfl (lv_room (Nat.le_of_ble_eq_true rfl)) dX9_clear_32 ⟨(Nat.le_of_ble_eq_true rfl), (Nat.le_of_ble_eq_true rfl)⟩) hP hD hS hA [0] [1, 2, 3, 4, 5, 6, 7, 8, 9, 10] rfl rfl (by decide) (by decide) (fun u6 H locs hP hD hS => ?_)
  have hP : va_P g.1 vwCl [(q17, .inl (g.2 3, 10, .inr (.inr (.inr (.inr f18))))), (q33, .inl (g.2 0, 40, .inl (upd (upd (upd (upd (upd (upd (upd (upd (fillF 40 0 f34) 4 1) 9 1) 14 1) 19 1) 24 1) 29 1) 34 1) 39 1))), (q28, .inr (5, [w31, .ref q33])), (q52, .inl (g.2 0, 10, .inl f55)), (q51, .inl (g.2 0, 10, .inl f53)), (q29, .inr (9, [.ref q51, .ref q52, .int 1, .int 0])), (q20, .inr (8, [.ref q28, .ref q29, w23, .ref q30, .int 0, .int 4, .int 0])), (q30, .inl (g.2 0, 20, .inl (upd (upd (upd (upd (upd (upd (upd (upd f57 2 100) 4 5) 7 100) 9 5) 12 100) 14 5) 17 100) 19 5))), (q13, .inr (10, [.ref q17, .int 0, .int 0])), (q1, .inr (11, [.ref q13, w3, w4, w5, .ref q70, w7, w8, w9, .int 0, .int 0, w12])), (q70, .inr (4, [w71, .int 0]))] H := hP
  have hD : va_D A [(q17, .inl (g.2 3, 10, .inr (.inr (.inr (.inr f18))))), (q33, .inl (g.2 0, 40, .inl (upd (upd (upd (upd (upd (upd (upd (upd (fillF 40 0 f34) 4 1) 9 1) 14 1) 19 1) 24 1) 29 1) 34 1) 39 1))), (q28, .inr (5, [w31, .ref q33])), (q52, .inl (g.2 0, 10, .inl f55)), (q51, .inl (g.2 0, 10, .inl f53)), (q29, .inr (9, [.ref q51, .ref q52, .int 1, .int 0])), (q20, .inr (8, [.ref q28, .ref q29, w23, .ref q30, .int 0, .int 4, .int 0])), (q30, .inl (g.2 0, 20, .inl (upd (upd (upd (upd (upd (upd (upd (upd f57 2 100) 4 5) 7 100) 9 5) 12 100) 14 5) 17 100) 19 5))), (q13, .inr (10, [.ref q17, .int 0, .int 0])), (q1, .inr (11, [.ref q13, w3, w4, w5, .ref q70, w7, w8, w9, .int 0, .int 0, w12])), (q70, .inr (4, [w71, .int 0]))] := hD
  refine lv_aload_n hx hb dX9_clear_35 rfl (lv_at hl 2 rfl) ?_
  refine lv_iconst (v := (-1)) hx hb dX9_clear_36 (by decide) ?_
  refine pf_RX9_66 (ws' := [(q17, .inl (g.2 3, 10, .inr (.inr (.inr (.inr f18))))), (q33, .inl (g.2 0, 40, .inl (upd (upd (upd (upd (upd (upd (upd (upd (fillF 40 0 f34) 4 1) 9 1) 14 1) 19 1) 24 1) 29 1) 34 1) 39 1))), (q28, .inr (5, [w31, .ref q33])), (q52, .inl (g.2 0, 10, .inl f55)), (q51, .inl (g.2 0, 10, .inl f53)), (q29, .inr (9, [.ref q51, .ref q52, .int 1, .int 0])), (q20, .inr (8, [.ref q28, .ref q29, w23, .ref q30, .int 0, .int 4, .int 0])), (q30, .inl (g.2 0, 20, .inl (upd (upd (upd (upd (upd (upd (upd (upd f57 2 100) 4 5) 7 100) 9 5) 12 100) 14 5) 17 100) 19 5))), (q13, .inr (10, [.ref q17, .int 0, .int 0])), (q1, .inr (11, [.ref q13, w3, w4, w5, .ref q70, w7, w8, w9, .int 0, .int 0, .int (-1)])), (q70, .inr (4, [w71, .int 0]))]) hx hb hown hE hP hD hS 9 rfl rfl rfl (Nat.le_of_ble_eq_true rfl) dX9_clear_37 rfl (fun H locs hP hD hS => ?_)
  refine lv_iload_n hx hb dX9_clear_40 rfl (lv_at hl 0 rfl) ?_
  exact x_zret hx hb hr rfl rfl hlocks hP hD hS hAe hsz (Nat.le_of_ble_eq_true rfl) (Nat.le_of_ble_eq_true rfl) (fun _ => 0) [] (by decide) rfl dX9_clear_41

set_option maxHeartbeats 4000000 in
set_option maxRecDepth 100000 in
theorem c79_X10_clear (l : Launch) (g : gG) (q1 q39 : Nat) (w3 w4 w5 w6 w7 w8 w9 w10 w11 w12 w13 w14 w15 w16 w17 w18 w19 w20 w21 w22 w23 w24 w25 w26 w27 w28 w29 w30 w31 w32 w33 w34 w35 w36 w37 w38 : Value) (f40 : Nat → Int32) (hf41 : f40 392 = 0) (sz : Nat) : Met l yX10_clear [Cond.code yX10_clear cX10_clear 2 (some .int)] ({ frames := 1, cells := 0, slots := 0, locals := 21 } : Room) (va_Pc [.ref q1] (PX g sz [(q39, .inl (g.2 0, 497, .inl f40)), (q1, .inr (12, [.ref q39, w3, w4, w5, w6, w7, w8, w9, w10, w11, w12, w13, w14, w15, w16, w17, w18, w19, w20, w21, w22, w23, w24, w25, w26, w27, w28, w29, w30, w31, w32, w33, w34, w35, w36, w37, w38]))])) (QI g [(q39, .inl (g.2 0, 497, .inl f40)), (q1, .inr (12, [.ref q39, w3, w4, w5, w6, w7, w8, w9, w10, w11, w12, w13, w14, w15, w16, w17, w18, w19, w20, w21, w22, w23, w24, w25, w26, w27, w28, w29, w30, w31, w32, w33, w34, w35, w36, w37, w38]))] sz 0 (fun _ => [(q1, .inr (12, [.ref q39, w3, w4, w5, w6, .int 0, .int 0, w9, w10, w11, w12, w13, w14, w15, w16, w17, w18, w19, w20, w21, w22, w23, w24, w25, w26, w27, w28, w29, w30, w31, w32, w33, w34, w35, w36, w37, w38]))])) 0 0 (va_A [(q39, .inl (g.2 0, 497, .inl f40)), (q1, .inr (12, [.ref q39, w3, w4, w5, w6, w7, w8, w9, w10, w11, w12, w13, w14, w15, w16, w17, w18, w19, w20, w21, w22, w23, w24, w25, w26, w27, w28, w29, w30, w31, w32, w33, w34, w35, w36, w37, w38]))] sz) := by
  refine ofN (by decide) (Nat.le_of_ble_eq_true rfl) rfl ?_
  intro p e s m args below meth c A ls hAe hsz hx hb hml hr hlocks hin hown hE hP hD hA hS hl
  have hown : s.vm.findClass RX10 = some m.cls := hown
  refine lv_aload_n hx hb dX10_clear_0 rfl (lv_at hl 0 rfl) ?_
  refine lv_iconst (v := 0) hx hb dX10_clear_1 (by decide) ?_
  refine pf_RX10_86 (ws' := [(q39, .inl (g.2 0, 497, .inl f40)), (q1, .inr (12, [.ref q39, w3, w4, w5, w6, w7, .int 0, w9, w10, w11, w12, w13, w14, w15, w16, w17, w18, w19, w20, w21, w22, w23, w24, w25, w26, w27, w28, w29, w30, w31, w32, w33, w34, w35, w36, w37, w38]))]) hx hb hown hE hP hD hS 1 rfl rfl rfl (Nat.le_of_ble_eq_true rfl) dX10_clear_2 rfl (fun H locs hP hD hS => ?_)
  refine lv_aload_n hx hb dX10_clear_5 rfl (lv_at hl 0 rfl) ?_
  refine gf_RX10_9 hx hb hown hE hP 1 rfl rfl dX10_clear_6 ?_
  refine lv_sipush (v := 392) hx hb dX10_clear_9 (by decide) ?_
  refine x_iald (v := 0) hx hb hE hP 0 rfl 392 (x_in (by decide)) (by decide) hf41 dX10_clear_12 ?_
  refine lv_istore_n (lv' := [(1, .int 0), (0, .ref q1)]) hx hb dX10_clear_13 rfl hl (by decide) rfl (fun ls hl => ?_)
  refine lv_aload_n hx hb dX10_clear_14 rfl (lv_at hl 1 rfl) ?_
  refine g_v (wr := []) (rV (rest := []) hx hb hml hown hE hP hD 1 rfl rfl (c68_X10_begin l g q1 q39 w3 w4 w5 w6 w7 (.int 0) w9 w10 w11 w12 w13 w14 w15 w16 w17 w18 w19 w20 w21 w22 w23 w24 w25 w26 w27 w28 w29 w30 w31 w32 w33 w34 w35 w36 w37 w38 f40 H.size) (kV_X10_begin hE (e1296 hE) rfl rfl ⟨(Nat.le_of_ble_eq_true rfl), (Nat.le_of_ble_eq_true rfl)⟩) [0, 1] rfl (by decide) rfl hl.1 rfl (lv_room (Nat.le_of_ble_eq_true rfl)) dX10_clear_15 ⟨(Nat.le_of_ble_eq_true rfl), (Nat.le_of_ble_eq_true rfl)⟩) hP hD hS hA [0, 1] [] rfl rfl (by decide) (by decide) (fun u1 H locs hP hD hS => ?_)
  have hP : va_P g.1 vwCl [(q39, .inl (g.2 0, 497, .inl (upd (upd (upd (upd (upd (upd (upd (upd (upd (upd (upd (fillF 497 0 f40) 453 1) 455 100) 476 100) 478 5) 481 100) 483 5) 486 100) 488 5) 491 100) 493 5) 495 4))), (q1, .inr (12, [.ref q39, w3, w4, w5, w6, w7, .int 0, w9, w10, w11, w12, w13, w14, w15, w16, w17, w18, w19, w20, w21, w22, w23, w24, w25, w26, w27, w28, w29, w30, w31, w32, w33, w34, w35, w36, w37, w38]))] H := hP
  have hD : va_D A [(q39, .inl (g.2 0, 497, .inl (upd (upd (upd (upd (upd (upd (upd (upd (upd (upd (upd (fillF 497 0 f40) 453 1) 455 100) 476 100) 478 5) 481 100) 483 5) 486 100) 488 5) 491 100) 493 5) 495 4))), (q1, .inr (12, [.ref q39, w3, w4, w5, w6, w7, .int 0, w9, w10, w11, w12, w13, w14, w15, w16, w17, w18, w19, w20, w21, w22, w23, w24, w25, w26, w27, w28, w29, w30, w31, w32, w33, w34, w35, w36, w37, w38]))] := hD
  refine lv_aload_n hx hb dX10_clear_18 rfl (lv_at hl 1 rfl) ?_
  refine lv_iconst (v := 0) hx hb dX10_clear_19 (by decide) ?_
  refine pf_RX10_89 (ws' := [(q39, .inl (g.2 0, 497, .inl (upd (upd (upd (upd (upd (upd (upd (upd (upd (upd (upd (fillF 497 0 f40) 453 1) 455 100) 476 100) 478 5) 481 100) 483 5) 486 100) 488 5) 491 100) 493 5) 495 4))), (q1, .inr (12, [.ref q39, w3, w4, w5, w6, .int 0, .int 0, w9, w10, w11, w12, w13, w14, w15, w16, w17, w18, w19, w20, w21, w22, w23, w24, w25, w26, w27, w28, w29, w30, w31, w32, w33, w34, w35, w36, w37, w38]))]) hx hb hown hE hP hD hS 1 rfl rfl rfl (Nat.le_of_ble_eq_true rfl) dX10_clear_20 rfl (fun H locs hP hD hS => ?_)
  refine lv_iload_n hx hb dX10_clear_23 rfl (lv_at hl 0 rfl) ?_
  exact x_zret hx hb hr rfl rfl hlocks hP hD hS hAe hsz (Nat.le_of_ble_eq_true rfl) (Nat.le_of_ble_eq_true rfl) (fun _ => 0) [1] (by decide) rfl dX10_clear_24

set_option maxHeartbeats 4000000 in
set_option maxRecDepth 100000 in
theorem c80_X9_requireIndex (l : Launch) (g : gG) (hlx : l.stackTraces = false) (x1 : Int32) (h2 : x1 < 0) (sz : Nat) : vx_Met l yX9_requireIndex [Cond.code yX9_requireIndex cX9_requireIndex 2 none] ({ frames := 6, cells := 1, slots := 6, locals := 100 } : Room) (va_Pc [.int x1, .int 8] (PZ g sz [])) NV (XW g [] sz "java/lang/IndexOutOfBoundsException" []) 1 6 (va_A [] sz) := by
  refine ofX (by decide) (Nat.le_of_ble_eq_true rfl) rfl ?_
  intro p e s m args below meth c A ls hAe hsz hx hb hml hr hlocks hin hown hE hP hD hA hS hl hex hz
  have hown : s.vm.findClass RX9 = some m.cls := hown
  refine lv_iload_n hx hb dX9_requireIndex_0 rfl (lv_at hl 0 rfl) ?_
  refine lv_if_lt (tgt := 9) hx hb dX9_requireIndex_1 (by decide) (fun _ => ?_) (fun h => absurd h2 h)
  exact x_throwW (text := "no such number") (names := ["java/lang/RuntimeException", "java/lang/Exception"]) hx hb hlx hown hE (by decide) (by decide) (e623 hE) (e17 hE) (by decide +kernel) (th_324 hE) tg_324_320 hz (by rw [hml]; exact hl.1) dX9_requireIndex_9 dX9_requireIndex_12 dX9_requireIndex_13 dX9_requireIndex_16 dX9_requireIndex_19 hex (Nat.le_of_ble_eq_true rfl) (Nat.le_of_ble_eq_true rfl) (Nat.le_of_ble_eq_true rfl) (Nat.le_of_ble_eq_true rfl) hlocks hP hD hS hAe hsz (Nat.le_of_ble_eq_true rfl) (Nat.le_of_ble_eq_true rfl) [] (by decide) rfl

set_option maxHeartbeats 4000000 in
set_option maxRecDepth 100000 in
theorem c81_X9_requirePattern (l : Launch) (g : gG) (hlx : l.stackTraces = false) (x1 : Int32) (h2 : x1 < 0) (sz : Nat) : vx_Met l yX9_requirePattern [Cond.code yX9_requirePattern cX9_requirePattern 1 none] ({ frames := 7, cells := 1, slots := 6, locals := 121 } : Room) (va_Pc [.int x1] (PZ g sz [])) NV (XW g [] sz "java/lang/IndexOutOfBoundsException" []) 1 6 (va_A [] sz) := by
  refine ofX (by decide) (Nat.le_of_ble_eq_true rfl) rfl ?_
  intro p e s m args below meth c A ls hAe hsz hx hb hml hr hlocks hin hown hE hP hD hA hS hl hex hz
  have hown : s.vm.findClass RX9 = some m.cls := hown
  refine lv_iload_n hx hb dX9_requirePattern_0 rfl (lv_at hl 0 rfl) ?_
  refine lv_bipush (v := 8) hx hb dX9_requirePattern_1 (by decide) ?_
  refine gx_v (wr := []) (rSx (rest := []) hx hb hml hown hE hP hD hS hA hz (c80_X9_requireIndex l g hlx x1 h2 s.heap.size) (kS_X9_requireIndex hE (e620 hE) rfl rfl ⟨(Nat.le_of_ble_eq_true rfl), (Nat.le_of_ble_eq_true rfl)⟩) [] rfl (by decide) rfl hl.1 rfl (lv_room (Nat.le_of_ble_eq_true rfl)) dX9_requirePattern_3 ⟨(Nat.le_of_ble_eq_true rfl), (Nat.le_of_ble_eq_true rfl)⟩) hP hD hS hA [] [] rfl rfl (by decide) (by decide) (fun ce9 q9 H locs hP hD hS hq1 hq2 hq3 => ?_)
  exact x_out hex hlocks hq1 hq2 hq3 hP hD hS hAe hsz (Nat.le_of_ble_eq_true rfl) (Nat.le_of_ble_eq_true rfl) [] (by decide) rfl

set_option maxHeartbeats 4000000 in
set_option maxRecDepth 100000 in
theorem c82_X9_addNote (l : Launch) (g : gG) (hlx : l.stackTraces = false) (q1 : Nat) (x2 x3 x4 x5 : Int32) (h6 : x2 < 0) (sz : Nat) : vx_Met l yX9_addNote [Cond.code yX9_addNote cX9_addNote 5 (some .int)] ({ frames := 8, cells := 1, slots := 6, locals := 141 } : Room) (va_Pc [.ref q1, .int x2, .int x3, .int x4, .int x5] (PZ g sz [])) NI (XW g [] sz "java/lang/IndexOutOfBoundsException" []) 1 6 (va_A [] sz) := by
  refine ofX (by decide) (Nat.le_of_ble_eq_true rfl) rfl ?_
  intro p e s m args below meth c A ls hAe hsz hx hb hml hr hlocks hin hown hE hP hD hA hS hl hex hz
  have hown : s.vm.findClass RX9 = some m.cls := hown
  refine lv_iload_n hx hb dX9_addNote_0 rfl (lv_at hl 1 rfl) ?_
  refine gx_v (wr := []) (rSx (rest := []) hx hb hml hown hE hP hD hS hA hz (c81_X9_requirePattern l g hlx x2 h6 s.heap.size) (kS_X9_requirePattern hE (e617 hE) rfl rfl ⟨(Nat.le_of_ble_eq_true rfl), (Nat.le_of_ble_eq_true rfl)⟩) [] rfl (by decide) rfl hl.1 rfl (lv_room (Nat.le_of_ble_eq_true rfl)) dX9_addNote_1 ⟨(Nat.le_of_ble_eq_true rfl), (Nat.le_of_ble_eq_true rfl)⟩) hP hD hS hA [] [] rfl rfl (by decide) (by decide) (fun ce9 q9 H locs hP hD hS hq1 hq2 hq3 => ?_)
  exact x_out hex hlocks hq1 hq2 hq3 hP hD hS hAe hsz (Nat.le_of_ble_eq_true rfl) (Nat.le_of_ble_eq_true rfl) [] (by decide) rfl

set_option maxHeartbeats 4000000 in
set_option maxRecDepth 100000 in
theorem c83_L_addNote (l : Launch) (g : gG) (hlx : l.stackTraces = false) (q1 q6 : Nat) (x2 x3 x4 x5 : Int32) (w8 w9 w10 w11 w12 w13 w14 w15 w16 w17 w18 : Value) (h7 : x2 < 0) (sz : Nat) : Met l yL_addNote [Cond.codeWith yL_addNote cL_addNote 7 (some .int) [(0, 14, 17, 13), (0, 14, 21, 15), (0, 14, 25, 17)]] ({ frames := 9, cells := 1, slots := 6, locals := 165 } : Room) (va_Pc [.ref q1, .int x2, .int x3, .int x4, .int x5, .ref q6] (PZ g sz [(q1, .inr (11, [w8, w9, w10, w11, w12, w13, w14, w15, w16, w17, w18]))])) (QI g [(q1, .inr (11, [w8, w9, w10, w11, w12, w13, w14, w15, w16, w17, w18]))] sz 1 (fun _ => [])) 1 6 (va_A [(q1, .inr (11, [w8, w9, w10, w11, w12, w13, w14, w15, w16, w17, w18]))] sz) := by
  refine ofH (by decide) (Nat.le_of_ble_eq_true rfl) rfl ?_
  intro p e s m args below meth c A ls hAe hsz hx hb hml hr hlocks hin hown hE hP hD hA hS hl htb hz
  have hown : s.vm.findClass RL = some m.cls := hown
  refine lv_aload hx hb dL_addNote_0 (lv_at hl 5 rfl) ?_
  refine lv_iconst (v := 0) hx hb dL_addNote_2 (by decide) ?_
  refine lv_aload_n hx hb dL_addNote_3 rfl (lv_at hl 0 rfl) ?_
  refine lv_iload_n hx hb dL_addNote_4 rfl (lv_at hl 1 rfl) ?_
  refine lv_iload_n hx hb dL_addNote_5 rfl (lv_at hl 2 rfl) ?_
  refine lv_iload_n hx hb dL_addNote_6 rfl (lv_at hl 3 rfl) ?_
  refine lv_iload hx hb dL_addNote_7 (lv_at hl 4 rfl) ?_
  refine gx_i (wr := [(q1, .inr (11, [w8, w9, w10, w11, w12, w13, w14, w15, w16, w17, w18]))]) (rVx (rest := [.int 0, .ref q6]) hx hb hml hown hE hP hD hS hA hz 0 rfl rfl (c82_X9_addNote l g hlx q1 x2 x3 x4 x5 h7 s.heap.size) (kV_X9_addNote hE (e613 hE) rfl rfl ⟨(Nat.le_of_ble_eq_true rfl), (Nat.le_of_ble_eq_true rfl)⟩) [] rfl (by decide) rfl hl.1 rfl (lv_room (Nat.le_of_ble_eq_true rfl)) dL_addNote_9 ⟨(Nat.le_of_ble_eq_true rfl), (Nat.le_of_ble_eq_true rfl)⟩) hP hD hS hA [] [0] rfl rfl (by decide) (by decide) (fun ce9 q9 H locs hP hD hS hq1 hq2 hq3 => ?_)
  have hP : va_P g.1 vwCl [(q1, .inr (11, [w8, w9, w10, w11, w12, w13, w14, w15, w16, w17, w18]))] H := hP
  have hD : va_D A [(q1, .inr (11, [w8, w9, w10, w11, w12, w13, w14, w15, w16, w17, w18]))] := hD
  refine x_catch (name := "java/lang/IndexOutOfBoundsException") (hh := [(0, 14, 17, 13), (0, 14, 21, 15), (0, 14, 25, 17)]) (tgt := 17) hown htb [] ⟨0, 14, 17, 13⟩ [⟨0, 14, 21, 15⟩, ⟨0, 14, 25, 17⟩] rfl (fun _ h => nomatch h) rfl (by decide) (e532 hE) (e625 hE) hq1 hq2 hq3 rfl ?_
  refine lv_astore (lv' := [(6, .ref q9), (0, .ref q1), (1, .int x2), (2, .int x3), (3, .int x4), (4, .int x5), (5, .ref q6)]) hx hb dL_addNote_17 hl (by decide) rfl (fun ls hl => ?_)
  refine lv_iconst (v := 1) hx hb dL_addNote_19 (by decide) ?_
  exact x_zret hx hb hr rfl rfl hlocks hP hD hS hAe hsz (Nat.le_of_ble_eq_true rfl) (Nat.le_of_ble_eq_true rfl) (fun _ => 0) [] (by decide) rfl dL_addNote_20

set_option maxHeartbeats 4000000 in
set_option maxRecDepth 100000 in
theorem c84_X10_in (l : Launch) (g : gG) (x1 : Int32) (h2 : x1 < 0) (sz : Nat) : Met l yX10_in [Cond.code yX10_in cX10_in 3 (some .boolean)] ({ frames := 0, cells := 0, slots := 0, locals := 0 } : Room) (va_Pc [.int x1, .int 0, .int 7] (PX g sz [])) (QI g [] sz 0 (fun _ => [])) 0 0 (va_A [] sz) := by
  refine ofN (by decide) (Nat.le_of_ble_eq_true rfl) rfl ?_
  intro p e s m args below meth c A ls hAe hsz hx hb hml hr hlocks hin hown hE hP hD hA hS hl
  have hown : s.vm.findClass RX10 = some m.cls := hown
  refine lv_iload_n hx hb dX10_in_0 rfl (lv_at hl 0 rfl) ?_
  refine lv_iload_n hx hb dX10_in_1 rfl (lv_at hl 1 rfl) ?_
  refine lv_icmp_lt (tgt := 14) hx hb dX10_in_2 (by decide) (fun _ => ?_) (fun h => absurd h2 h)
  refine lv_iconst (v := 0) hx hb dX10_in_14 (by decide) ?_
  exact x_zret hx hb hr rfl rfl hlocks hP hD hS hAe hsz (Nat.le_of_ble_eq_true rfl) (Nat.le_of_ble_eq_true rfl) (fun _ => 0) [] (by decide) rfl dX10_in_15

set_option maxHeartbeats 4000000 in
set_option maxRecDepth 100000 in
theorem c85_X10_isPattern (l : Launch) (g : gG) (x1 : Int32) (h2 : x1 < 0) (sz : Nat) : Met l yX10_isPattern [Cond.code yX10_isPattern cX10_isPattern 1 (some .boolean)] ({ frames := 1, cells := 0, slots := 0, locals := 22 } : Room) (va_Pc [.int x1] (PX g sz [])) (QI g [] sz 0 (fun _ => [])) 0 0 (va_A [] sz) := by
  refine ofN (by decide) (Nat.le_of_ble_eq_true rfl) rfl ?_
  intro p e s m args below meth c A ls hAe hsz hx hb hml hr hlocks hin hown hE hP hD hA hS hl
  have hown : s.vm.findClass RX10 = some m.cls := hown
  refine lv_iload_n hx hb dX10_isPattern_0 rfl (lv_at hl 0 rfl) ?_
  refine lv_iconst (v := 0) hx hb dX10_isPattern_1 (by decide) ?_
  refine lv_bipush (v := 7) hx hb dX10_isPattern_2 (by decide) ?_
  refine g0_i (rS (rest := []) hx hb hml hown hE hP hD (c84_X10_in l g x1 h2 s.heap.size) (kS_X10_in hE (e1431 hE) rfl rfl ⟨(Nat.le_of_ble_eq_true rfl), (Nat.le_of_ble_eq_true rfl)⟩) [] rfl (by decide) rfl hl.1 rfl (lv_room (Nat.le_of_ble_eq_true rfl)) dX10_isPattern_4 ⟨(Nat.le_of_ble_eq_true rfl), (Nat.le_of_ble_eq_true rfl)⟩) hP hD hS hA (fun u9 H locs hP hS => ?_)
  exact x_zret hx hb hr rfl rfl hlocks hP hD hS hAe hsz (Nat.le_of_ble_eq_true rfl) (Nat.le_of_ble_eq_true rfl) (fun _ => 0) [] (by decide) rfl dX10_isPattern_7

set_option maxHeartbeats 4000000 in
set_option maxRecDepth 100000 in
theorem c86_X10_added (l : Launch) (g : gG) (q1 : Nat) (x2 x3 x4 x5 : Int32) (w7 w8 w9 w10 w11 w12 w13 w14 w15 w16 w17 w18 w19 w20 w21 w22 w23 w24 w25 w26 w27 w28 w29 w30 w31 w32 w33 w34 w35 w36 w37 w38 w39 w40 w41 w42 w43 : Value) (h6 : x2 < 0) (sz : Nat) : Met l yX10_added [Cond.code yX10_added cX10_added 6 (some .int)] ({ frames := 2, cells := 0, slots := 0, locals := 42 } : Room) (va_Pc [.ref q1, .int x2, .int 0, .int x3, .int x4, .int x5] (PX g sz [(q1, .inr (12, [w7, w8, w9, w10, w11, w12, w13, w14, w15, w16, w17, w18, w19, w20, w21, w22, w23, w24, w25, w26, w27, w28, w29, w30, w31, w32, w33, w34, w35, w36, w37, w38, w39, w40, w41, w42, w43]))])) (QI g [(q1, .inr (12, [w7, w8, w9, w10, w11, w12, w13, w14, w15, w16, w17, w18, w19, w20, w21, w22, w23, w24, w25, w26, w27, w28, w29, w30, w31, w32, w33, w34, w35, w36, w37, w38, w39, w40, w41, w42, w43]))] sz 0 (fun _ => [(q1, .inr (12, [w7, w8, w9, w10, w11, w12, .int 1, w14, w15, w16, w17, w18, w19, w20, w21, w22, w23, w24, w25, w26, w27, w28, w29, w30, w31, w32, w33, w34, w35, w36, w37, w38, w39, w40, w41, w42, w43]))])) 0 0 (va_A [(q1, .inr (12, [w7, w8, w9, w10, w11, w12, w13, w14, w15, w16, w17, w18, w19, w20, w21, w22, w23, w24, w25, w26, w27, w28, w29, w30, w31, w32, w33, w34, w35, w36, w37, w38, w39, w40, w41, w42, w43]))] sz) := by
  refine ofN (by decide) (Nat.le_of_ble_eq_true rfl) rfl ?_
  intro p e s m args below meth c A ls hAe hsz hx hb hml hr hlocks hin hown hE hP hD hA hS hl
  have hown : s.vm.findClass RX10 = some m.cls := hown
  refine lv_aload_n hx hb dX10_added_0 rfl (lv_at hl 0 rfl) ?_
  refine lv_iload_n hx hb dX10_added_1 rfl (lv_at hl 1 rfl) ?_
  refine g0_i (rS (rest := [.ref q1]) hx hb hml hown hE hP hD (c85_X10_isPattern l g x2 h6 s.heap.size) (kS_X10_isPattern hE (e1428 hE) rfl rfl ⟨(Nat.le_of_ble_eq_true rfl), (Nat.le_of_ble_eq_true rfl)⟩) [] rfl (by decide) rfl hl.1 rfl (lv_room (Nat.le_of_ble_eq_true rfl)) dX10_added_2 ⟨(Nat.le_of_ble_eq_true rfl), (Nat.le_of_ble_eq_true rfl)⟩) hP hD hS hA (fun u9 H locs hP hS => ?_)
  refine lv_if_ne (tgt := 12) hx hb dX10_added_5 (by decide) (fun h => absurd h (by decide)) (fun _ => ?_)
  refine lv_iconst (v := 1) hx hb dX10_added_8 (by decide) ?_
  refine lv_goto (tgt := 30) hx hb dX10_added_9 (by decide) ?_
  refine pf_RX10_86 (ws' := [(q1, .inr (12, [w7, w8, w9, w10, w11, w12, .int 1, w14, w15, w16, w17, w18, w19, w20, w21, w22, w23, w24, w25, w26, w27, w28, w29, w30, w31, w32, w33, w34, w35, w36, w37, w38, w39, w40, w41, w42, w43]))]) hx hb hown hE hP hD hS 0 rfl rfl rfl (Nat.le_of_ble_eq_true rfl) dX10_added_30 rfl (fun H locs hP hD hS => ?_)
  refine lv_aload_n hx hb dX10_added_33 rfl (lv_at hl 0 rfl) ?_
  refine gf_RX10_86 hx hb hown hE hP 0 rfl rfl dX10_added_34 ?_
  refine lv_if_le (tgt := 42) hx hb dX10_added_37 (by decide) (fun h => absurd h (by decide)) (fun _ => ?_)
  refine lv_iconst (v := 0) hx hb dX10_added_40 (by decide) ?_
  exact x_zret hx hb hr rfl rfl hlocks hP hD hS hAe hsz (Nat.le_of_ble_eq_true rfl) (Nat.le_of_ble_eq_true rfl) (fun _ => 0) [0] (by decide) rfl dX10_added_41

set_option maxHeartbeats 4000000 in
set_option maxRecDepth 100000 in
theorem c87_X10_addNote (l : Launch) (g : gG) (q1 : Nat) (x2 x3 x4 x5 : Int32) (w7 w8 w9 w10 w11 w12 w13 w14 w15 w16 w17 w18 w19 w20 w21 w22 w23 w24 w25 w26 w27 w28 w29 w30 w31 w32 w33 w34 w35 w36 w37 w38 w39 w40 w41 w42 w43 : Value) (h6 : x2 < 0) (sz : Nat) : Met l yX10_addNote [Cond.code yX10_addNote cX10_addNote 5 (some .int)] ({ frames := 3, cells := 0, slots := 0, locals := 67 } : Room) (va_Pc [.ref q1, .int x2, .int x3, .int x4, .int x5] (PX g sz [(q1, .inr (12, [w7, w8, w9, w10, w11, w12, w13, w14, w15, w16, w17, w18, w19, w20, w21, w22, w23, w24, w25, w26, w27, w28, w29, w30, w31, w32, w33, w34, w35, w36, w37, w38, w39, w40, w41, w42, w43]))])) (QI g [(q1, .inr (12, [w7, w8, w9, w10, w11, w12, w13, w14, w15, w16, w17, w18, w19, w20, w21, w22, w23, w24, w25, w26, w27, w28, w29, w30, w31, w32, w33, w34, w35, w36, w37, w38, w39, w40, w41, w42, w43]))] sz 0 (fun _ => [(q1, .inr (12, [w7, w8, w9, w10, w11, w12, .int 1, w14, w15, w16, w17, w18, w19, w20, w21, w22, w23, w24, w25, w26, w27, w28, w29, w30, w31, w32, w33, w34, w35, w36, w37, w38, w39, w40, w41, w42, w43]))])) 0 0 (va_A [(q1, .inr (12, [w7, w8, w9, w10, w11, w12, w13, w14, w15, w16, w17, w18, w19, w20, w21, w22, w23, w24, w25, w26, w27, w28, w29, w30, w31, w32, w33, w34, w35, w36, w37, w38, w39, w40, w41, w42, w43]))] sz) := by
  refine ofN (by decide) (Nat.le_of_ble_eq_true rfl) rfl ?_
  intro p e s m args below meth c A ls hAe hsz hx hb hml hr hlocks hin hown hE hP hD hA hS hl
  have hown : s.vm.findClass RX10 = some m.cls := hown
  refine lv_aload_n hx hb dX10_addNote_0 rfl (lv_at hl 0 rfl) ?_
  refine lv_iload_n hx hb dX10_addNote_1 rfl (lv_at hl 1 rfl) ?_
  refine lv_iconst (v := 0) hx hb dX10_addNote_2 (by decide) ?_
  refine lv_iload_n hx hb dX10_addNote_3 rfl (lv_at hl 2 rfl) ?_
  refine lv_iload_n hx hb dX10_addNote_4 rfl (lv_at hl 3 rfl) ?_
  refine lv_iload hx hb dX10_addNote_5 (lv_at hl 4 rfl) ?_
  refine g_i (wr := []) (rV (rest := []) hx hb hml hown hE hP hD 0 rfl rfl (c86_X10_added l g q1 x2 x3 x4 x5 w7 w8 w9 w10 w11 w12 w13 w14 w15 w16 w17 w18 w19 w20 w21 w22 w23 w24 w25 w26 w27 w28 w29 w30 w31 w32 w33 w34 w35 w36 w37 w38 w39 w40 w41 w42 w43 h6 s.heap.size) (kV_X10_added hE (e1424 hE) rfl rfl ⟨(Nat.le_of_ble_eq_true rfl), (Nat.le_of_ble_eq_true rfl)⟩) [0] rfl (by decide) rfl hl.1 rfl (lv_room (Nat.le_of_ble_eq_true rfl)) dX10_addNote_7 ⟨(Nat.le_of_ble_eq_true rfl), (Nat.le_of_ble_eq_true rfl)⟩) hP hD hS hA [0] [] rfl rfl (by decide) (by decide) (fun u1 H locs hP hD hS => ?_)
  have hP : va_P g.1 vwCl [(q1, .inr (12, [w7, w8, w9, w10, w11, w12, .int 1, w14, w15, w16, w17, w18, w19, w20, w21, w22, w23, w24, w25, w26, w27, w28, w29, w30, w31, w32, w33, w34, w35, w36, w37, w38, w39, w40, w41, w42, w43]))] H := hP
  have hD : va_D A [(q1, .inr (12, [w7, w8, w9, w10, w11, w12, .int 1, w14, w15, w16, w17, w18, w19, w20, w21, w22, w23, w24, w25, w26, w27, w28, w29, w30, w31, w32, w33, w34, w35, w36, w37, w38, w39, w40, w41, w42, w43]))] := hD
  exact x_zret hx hb hr rfl rfl hlocks hP hD hS hAe hsz (Nat.le_of_ble_eq_true rfl) (Nat.le_of_ble_eq_true rfl) (fun _ => 0) [0] (by decide) rfl dX10_addNote_10

set_option maxHeartbeats 4000000 in
set_option maxRecDepth 100000 in
theorem c88_X9_requireIndex (l : Launch) (g : gG) (x1 : Int32) (h2 : (0 : Int32) ≤ x1) (h3 : x1 < 8) (sz : Nat) : Met l yX9_requireIndex [Cond.code yX9_requireIndex cX9_requireIndex 2 none] ({ frames := 0, cells := 0, slots := 0, locals := 0 } : Room) (va_Pc [.int x1, .int 8] (PX g sz [])) (QV g [] sz (fun _ => [])) 0 0 (va_A [] sz) := by
  refine ofN (by decide) (Nat.le_of_ble_eq_true rfl) rfl ?_
  intro p e s m args below meth c A ls hAe hsz hx hb hml hr hlocks hin hown hE hP hD hA hS hl
  have hown : s.vm.findClass RX9 = some m.cls := hown
  refine lv_iload_n hx hb dX9_requireIndex_0 rfl (lv_at hl 0 rfl) ?_
  refine lv_if_lt (tgt := 9) hx hb dX9_requireIndex_1 (by decide) (fun h => absurd h (i_nlt h2)) (fun _ => ?_)
  refine lv_iload_n hx hb dX9_requireIndex_4 rfl (lv_at hl 0 rfl) ?_
  refine lv_iload_n hx hb dX9_requireIndex_5 rfl (lv_at hl 1 rfl) ?_
  refine lv_icmp_lt (tgt := 20) hx hb dX9_requireIndex_6 (by decide) (fun _ => ?_) (fun h => absurd h3 h)
  exact x_vret hx hb hr hlocks hP hD hS hAe hsz (Nat.le_of_ble_eq_true rfl) (Nat.le_of_ble_eq_true rfl) (fun _ => 0) [] (by decide) rfl dX9_requireIndex_20

set_option maxHeartbeats 4000000 in
set_option maxRecDepth 100000 in
theorem c89_X9_requirePattern (l : Launch) (g : gG) (x1 : Int32) (h2 : (0 : Int32) ≤ x1) (h3 : x1 < 8) (sz : Nat) : Met l yX9_requirePattern [Cond.code yX9_requirePattern cX9_requirePattern 1 none] ({ frames := 1, cells := 0, slots := 0, locals := 21 } : Room) (va_Pc [.int x1] (PX g sz [])) (QV g [] sz (fun _ => [])) 0 0 (va_A [] sz) := by
  refine ofN (by decide) (Nat.le_of_ble_eq_true rfl) rfl ?_
  intro p e s m args below meth c A ls hAe hsz hx hb hml hr hlocks hin hown hE hP hD hA hS hl
  have hown : s.vm.findClass RX9 = some m.cls := hown
  refine lv_iload_n hx hb dX9_requirePattern_0 rfl (lv_at hl 0 rfl) ?_
  refine lv_bipush (v := 8) hx hb dX9_requirePattern_1 (by decide) ?_
  refine g0_v (rS (rest := []) hx hb hml hown hE hP hD (c88_X9_requireIndex l g x1 h2 h3 s.heap.size) (kS_X9_requireIndex hE (e620 hE) rfl rfl ⟨(Nat.le_of_ble_eq_true rfl), (Nat.le_of_ble_eq_true rfl)⟩) [] rfl (by decide) rfl hl.1 rfl (lv_room (Nat.le_of_ble_eq_true rfl)) dX9_requirePattern_3 ⟨(Nat.le_of_ble_eq_true rfl), (Nat.le_of_ble_eq_true rfl)⟩) hP hD hS hA (fun u9 H locs hP hS => ?_)
  exact x_vret hx hb hr hlocks hP hD hS hAe hsz (Nat.le_of_ble_eq_true rfl) (Nat.le_of_ble_eq_true rfl) (fun _ => 0) [] (by decide) rfl dX9_requirePattern_6

set_option maxHeartbeats 4000000 in
set_option maxRecDepth 100000 in
theorem c90_X9_requireRange (l : Launch) (g : gG) (hlx : l.stackTraces = false) (x1 : Int32) (h2 : x1 < 0) (sz : Nat) : vx_Met l yX9_requireRange [Cond.code yX9_requireRange cX9_requireRange 3 none] ({ frames := 6, cells := 1, slots := 6, locals := 100 } : Room) (va_Pc [.int x1, .int 0, .int 99] (PZ g sz [])) NV (XW g [] sz "java/lang/IllegalArgumentException" []) 1 6 (va_A [] sz) := by
  refine ofX (by decide) (Nat.le_of_ble_eq_true rfl) rfl ?_
  intro p e s m args below meth c A ls hAe hsz hx hb hml hr hlocks hin hown hE hP hD hA hS hl hex hz
  have hown : s.vm.findClass RX9 = some m.cls := hown
  refine lv_iload_n hx hb dX9_requireRange_0 rfl (lv_at hl 0 rfl) ?_
  refine lv_iload_n hx hb dX9_requireRange_1 rfl (lv_at hl 1 rfl) ?_
  refine lv_icmp_lt (tgt := 10) hx hb dX9_requireRange_2 (by decide) (fun _ => ?_) (fun h => absurd h2 h)
  exact x_throwW (text := "a number is out of range") (names := ["java/lang/RuntimeException", "java/lang/Exception"]) hx hb hlx hown hE (by decide) (by decide) (e639 hE) (e20 hE) (by decide +kernel) (th_215 hE) tg_215_211 hz (by rw [hml]; exact hl.1) dX9_requireRange_10 dX9_requireRange_13 dX9_requireRange_14 dX9_requireRange_17 dX9_requireRange_20 hex (Nat.le_of_ble_eq_true rfl) (Nat.le_of_ble_eq_true rfl) (Nat.le_of_ble_eq_true rfl) (Nat.le_of_ble_eq_true rfl) hlocks hP hD hS hAe hsz (Nat.le_of_ble_eq_true rfl) (Nat.le_of_ble_eq_true rfl) [] (by decide) rfl

set_option maxHeartbeats 4000000 in
set_option maxRecDepth 100000 in
theorem c91_X9_addNote (l : Launch) (g : gG) (hlx : l.stackTraces = false) (q1 : Nat) (x2 x3 x4 x5 : Int32) (h6 : (0 : Int32) ≤ x2) (h7 : x2 < 8) (h8 : x3 < 0) (sz : Nat) : vx_Met l yX9_addNote [Cond.code yX9_addNote cX9_addNote 5 (some .int)] ({ frames := 7, cells := 1, slots := 6, locals := 122 } : Room) (va_Pc [.ref q1, .int x2, .int x3, .int x4, .int x5] (PZ g sz [])) NI (XW g [] sz "java/lang/IllegalArgumentException" []) 1 6 (va_A [] sz) := by
  refine ofX (by decide) (Nat.le_of_ble_eq_true rfl) rfl ?_
  intro p e s m args below meth c A ls hAe hsz hx hb hml hr hlocks hin hown hE hP hD hA hS hl hex hz
  have hown : s.vm.findClass RX9 = some m.cls := hown
  refine lv_iload_n hx hb dX9_addNote_0 rfl (lv_at hl 1 rfl) ?_
  refine g0_v (rS (rest := []) hx hb hml hown hE hP hD (c89_X9_requirePattern l g x2 h6 h7 s.heap.size) (kS_X9_requirePattern hE (e617 hE) rfl rfl ⟨(Nat.le_of_ble_eq_true rfl), (Nat.le_of_ble_eq_true rfl)⟩) [] rfl (by decide) rfl hl.1 rfl (lv_room (Nat.le_of_ble_eq_true rfl)) dX9_addNote_1 ⟨(Nat.le_of_ble_eq_true rfl), (Nat.le_of_ble_eq_true rfl)⟩) hP hD hS hA (fun u9 H locs hP hS => ?_)
  refine lv_iload_n hx hb dX9_addNote_4 rfl (lv_at hl 2 rfl) ?_
  refine lv_iconst (v := 0) hx hb dX9_addNote_5 (by decide) ?_
  refine lv_bipush (v := 99) hx hb dX9_addNote_6 (by decide) ?_
  refine gx_v (wr := []) (rSx (rest := []) hx hb hml hown hE hP hD hS hA hz (c90_X9_requireRange l g hlx x3 h8 H.size) (kS_X9_requireRange hE (e636 hE) rfl rfl ⟨(Nat.le_of_ble_eq_true rfl), (Nat.le_of_ble_eq_true rfl)⟩) [] rfl (by decide) rfl hl.1 rfl (lv_room (Nat.le_of_ble_eq_true rfl)) dX9_addNote_8 ⟨(Nat.le_of_ble_eq_true rfl), (Nat.le_of_ble_eq_true rfl)⟩) hP hD hS hA [] [] rfl rfl (by decide) (by decide) (fun ce9 q9 H locs hP hD hS hq1 hq2 hq3 => ?_)
  exact x_out hex hlocks hq1 hq2 hq3 hP hD hS hAe hsz (Nat.le_of_ble_eq_true rfl) (Nat.le_of_ble_eq_true rfl) [] (by decide) rfl

set_option maxHeartbeats 4000000 in
set_option maxRecDepth 100000 in
theorem c92_L_addNote (l : Launch) (g : gG) (hlx : l.stackTraces = false) (q1 q6 : Nat) (x2 x3 x4 x5 : Int32) (w10 w11 w12 w13 w14 w15 w16 w17 w18 w19 w20 : Value) (h7 : (0 : Int32) ≤ x2) (h8 : x2 < 8) (h9 : x3 < 0) (sz : Nat) : Met l yL_addNote [Cond.codeWith yL_addNote cL_addNote 7 (some .int) [(0, 14, 17, 13), (0, 14, 21, 15), (0, 14, 25, 17)]] ({ frames := 8, cells := 1, slots := 6, locals := 146 } : Room) (va_Pc [.ref q1, .int x2, .int x3, .int x4, .int x5, .ref q6] (PZ g sz [(q1, .inr (11, [w10, w11, w12, w13, w14, w15, w16, w17, w18, w19, w20]))])) (QI g [(q1, .inr (11, [w10, w11, w12, w13, w14, w15, w16, w17, w18, w19, w20]))] sz 2 (fun _ => [])) 1 6 (va_A [(q1, .inr (11, [w10, w11, w12, w13, w14, w15, w16, w17, w18, w19, w20]))] sz) := by
  refine ofH (by decide) (Nat.le_of_ble_eq_true rfl) rfl ?_
  intro p e s m args below meth c A ls hAe hsz hx hb hml hr hlocks hin hown hE hP hD hA hS hl htb hz
  have hown : s.vm.findClass RL = some m.cls := hown
  refine lv_aload hx hb dL_addNote_0 (lv_at hl 5 rfl) ?_
  refine lv_iconst (v := 0) hx hb dL_addNote_2 (by decide) ?_
  refine lv_aload_n hx hb dL_addNote_3 rfl (lv_at hl 0 rfl) ?_
  refine lv_iload_n hx hb dL_addNote_4 rfl (lv_at hl 1 rfl) ?_
  refine lv_iload_n hx hb dL_addNote_5 rfl (lv_at hl 2 rfl) ?_
  refine lv_iload_n hx hb dL_addNote_6 rfl (lv_at hl 3 rfl) ?_
  refine lv_iload hx hb dL_addNote_7 (lv_at hl 4 rfl) ?_
  refine gx_i (wr := [(q1, .inr (11, [w10, w11, w12, w13, w14, w15, w16, w17, w18, w19, w20]))]) (rVx (rest := [.int 0, .ref q6]) hx hb hml hown hE hP hD hS hA hz 0 rfl rfl (c91_X9_addNote l g hlx q1 x2 x3 x4 x5 h7 h8 h9 s.heap.size) (kV_X9_addNote hE (e613 hE) rfl rfl ⟨(Nat.le_of_ble_eq_true rfl), (Nat.le_of_ble_eq_true rfl)⟩) [] rfl (by decide) rfl hl.1 rfl (lv_room (Nat.le_of_ble_eq_true rfl)) dL_addNote_9 ⟨(Nat.le_of_ble_eq_true rfl), (Nat.le_of_ble_eq_true rfl)⟩) hP hD hS hA [] [0] rfl rfl (by decide) (by decide) (fun ce9 q9 H locs hP hD hS hq1 hq2 hq3 => ?_)
  have hP : va_P g.1 vwCl [(q1, .inr (11, [w10, w11, w12, w13, w14, w15, w16, w17, w18, w19, w20]))] H := hP
  have hD : va_D A [(q1, .inr (11, [w10, w11, w12, w13, w14, w15, w16, w17, w18, w19, w20]))] := hD
  refine x_catch (name := "java/lang/IllegalArgumentException") (hh := [(0, 14, 17, 13), (0, 14, 21, 15), (0, 14, 25, 17)]) (tgt := 21) hown htb [⟨0, 14, 17, 13⟩] ⟨0, 14, 21, 15⟩ [⟨0, 14, 25, 17⟩] rfl (fun z hz => by
    rcases List.mem_cons.mp hz with rfl | hz
    · exact Or.inr ⟨by decide, "java/lang/IndexOutOfBoundsException", e532 hE, hE.2.2.2.2.2 ("java/lang/IllegalArgumentException", "java/lang/IndexOutOfBoundsException") (by decide +kernel)⟩
    exact nomatch hz) rfl (by decide) (e611 hE) (e641 hE) hq1 hq2 hq3 rfl ?_
  refine lv_astore (lv' := [(6, .ref q9), (0, .ref q1), (1, .int x2), (2, .int x3), (3, .int x4), (4, .int x5), (5, .ref q6)]) hx hb dL_addNote_21 hl (by decide) rfl (fun ls hl => ?_)
  refine lv_iconst (v := 2) hx hb dL_addNote_23 (by decide) ?_
  exact x_zret hx hb hr rfl rfl hlocks hP hD hS hAe hsz (Nat.le_of_ble_eq_true rfl) (Nat.le_of_ble_eq_true rfl) (fun _ => 0) [] (by decide) rfl dL_addNote_24

set_option maxHeartbeats 4000000 in
set_option maxRecDepth 100000 in
theorem c93_X10_in (l : Launch) (g : gG) (x1 : Int32) (h2 : (0 : Int32) ≤ x1) (h3 : x1 ≤ 7) (sz : Nat) : Met l yX10_in [Cond.code yX10_in cX10_in 3 (some .boolean)] ({ frames := 0, cells := 0, slots := 0, locals := 0 } : Room) (va_Pc [.int x1, .int 0, .int 7] (PX g sz [])) (QI g [] sz 1 (fun _ => [])) 0 0 (va_A [] sz) := by
  refine ofN (by decide) (Nat.le_of_ble_eq_true rfl) rfl ?_
  intro p e s m args below meth c A ls hAe hsz hx hb hml hr hlocks hin hown hE hP hD hA hS hl
  have hown : s.vm.findClass RX10 = some m.cls := hown
  refine lv_iload_n hx hb dX10_in_0 rfl (lv_at hl 0 rfl) ?_
  refine lv_iload_n hx hb dX10_in_1 rfl (lv_at hl 1 rfl) ?_
  refine lv_icmp_lt (tgt := 14) hx hb dX10_in_2 (by decide) (fun h => absurd h (i_nlt h2)) (fun _ => ?_)
  refine lv_iload_n hx hb dX10_in_5 rfl (lv_at hl 0 rfl) ?_
  refine lv_iload_n hx hb dX10_in_6 rfl (lv_at hl 2 rfl) ?_
  refine lv_icmp_gt (tgt := 14) hx hb dX10_in_7 (by decide) (fun h => absurd h (i_nlt h3)) (fun _ => ?_)
  refine lv_iconst (v := 1) hx hb dX10_in_10 (by decide) ?_
  refine lv_goto (tgt := 15) hx hb dX10_in_11 (by decide) ?_
  exact x_zret hx hb hr rfl rfl hlocks hP hD hS hAe hsz (Nat.le_of_ble_eq_true rfl) (Nat.le_of_ble_eq_true rfl) (fun _ => 0) [] (by decide) rfl dX10_in_15

set_option maxHeartbeats 4000000 in
set_option maxRecDepth 100000 in
theorem c94_X10_isPattern (l : Launch) (g : gG) (x1 : Int32) (h2 : (0 : Int32) ≤ x1) (h3 : x1 ≤ 7) (sz : Nat) : Met l yX10_isPattern [Cond.code yX10_isPattern cX10_isPattern 1 (some .boolean)] ({ frames := 1, cells := 0, slots := 0, locals := 22 } : Room) (va_Pc [.int x1] (PX g sz [])) (QI g [] sz 1 (fun _ => [])) 0 0 (va_A [] sz) := by
  refine ofN (by decide) (Nat.le_of_ble_eq_true rfl) rfl ?_
  intro p e s m args below meth c A ls hAe hsz hx hb hml hr hlocks hin hown hE hP hD hA hS hl
  have hown : s.vm.findClass RX10 = some m.cls := hown
  refine lv_iload_n hx hb dX10_isPattern_0 rfl (lv_at hl 0 rfl) ?_
  refine lv_iconst (v := 0) hx hb dX10_isPattern_1 (by decide) ?_
  refine lv_bipush (v := 7) hx hb dX10_isPattern_2 (by decide) ?_
  refine g0_i (rS (rest := []) hx hb hml hown hE hP hD (c93_X10_in l g x1 h2 h3 s.heap.size) (kS_X10_in hE (e1431 hE) rfl rfl ⟨(Nat.le_of_ble_eq_true rfl), (Nat.le_of_ble_eq_true rfl)⟩) [] rfl (by decide) rfl hl.1 rfl (lv_room (Nat.le_of_ble_eq_true rfl)) dX10_isPattern_4 ⟨(Nat.le_of_ble_eq_true rfl), (Nat.le_of_ble_eq_true rfl)⟩) hP hD hS hA (fun u9 H locs hP hS => ?_)
  exact x_zret hx hb hr rfl rfl hlocks hP hD hS hAe hsz (Nat.le_of_ble_eq_true rfl) (Nat.le_of_ble_eq_true rfl) (fun _ => 0) [] (by decide) rfl dX10_isPattern_7

set_option maxHeartbeats 4000000 in
set_option maxRecDepth 100000 in
theorem c95_X10_in (l : Launch) (g : gG) (x1 : Int32) (h2 : x1 < 0) (sz : Nat) : Met l yX10_in [Cond.code yX10_in cX10_in 3 (some .boolean)] ({ frames := 0, cells := 0, slots := 0, locals := 0 } : Room) (va_Pc [.int x1, .int 0, .int 99] (PX g sz [])) (QI g [] sz 0 (fun _ => [])) 0 0 (va_A [] sz) := by
  refine ofN (by decide) (Nat.le_of_ble_eq_true rfl) rfl ?_
  intro p e s m args below meth c A ls hAe hsz hx hb hml hr hlocks hin hown hE hP hD hA hS hl
  have hown : s.vm.findClass RX10 = some m.cls := hown
  refine lv_iload_n hx hb dX10_in_0 rfl (lv_at hl 0 rfl) ?_
  refine lv_iload_n hx hb dX10_in_1 rfl (lv_at hl 1 rfl) ?_
  refine lv_icmp_lt (tgt := 14) hx hb dX10_in_2 (by decide) (fun _ => ?_) (fun h => absurd h2 h)
  refine lv_iconst (v := 0) hx hb dX10_in_14 (by decide) ?_
  exact x_zret hx hb hr rfl rfl hlocks hP hD hS hAe hsz (Nat.le_of_ble_eq_true rfl) (Nat.le_of_ble_eq_true rfl) (fun _ => 0) [] (by decide) rfl dX10_in_15

set_option maxHeartbeats 4000000 in
set_option maxRecDepth 100000 in
theorem c96_X10_isRanged (l : Launch) (g : gG) (x1 x2 x3 x4 : Int32) (h5 : x2 < 0) (sz : Nat) : Met l yX10_isRanged [Cond.code yX10_isRanged cX10_isRanged 5 (some .boolean)] ({ frames := 1, cells := 0, slots := 0, locals := 22 } : Room) (va_Pc [.int x1, .int 0, .int x2, .int x3, .int x4] (PX g sz [])) (QI g [] sz 0 (fun _ => [])) 0 0 (va_A [] sz) := by
  refine ofN (by decide) (Nat.le_of_ble_eq_true rfl) rfl ?_
  intro p e s m args below meth c A ls hAe hsz hx hb hml hr hlocks hin hown hE hP hD hA hS hl
  have hown : s.vm.findClass RX10 = some m.cls := hown
  refine lv_iload_n hx hb dX10_isRanged_0 rfl (lv_at hl 1 rfl) ?_
  refine lv_if_ne (tgt := 43) hx hb dX10_isRanged_1 (by decide) (fun h => absurd h (by decide)) (fun _ => ?_)
  refine lv_iload_n hx hb dX10_isRanged_4 rfl (lv_at hl 2 rfl) ?_
  refine lv_iconst (v := 0) hx hb dX10_isRanged_5 (by decide) ?_
  refine lv_bipush (v := 99) hx hb dX10_isRanged_6 (by decide) ?_
  refine g0_i (rS (rest := []) hx hb hml hown hE hP hD (c95_X10_in l g x2 h5 s.heap.size) (kS_X10_in hE (e1431 hE) rfl rfl ⟨(Nat.le_of_ble_eq_true rfl), (Nat.le_of_ble_eq_true rfl)⟩) [] rfl (by decide) rfl hl.1 rfl (lv_room (Nat.le_of_ble_eq_true rfl)) dX10_isRanged_8 ⟨(Nat.le_of_ble_eq_true rfl), (Nat.le_of_ble_eq_true rfl)⟩) hP hD hS hA (fun u9 H locs hP hS => ?_)
  refine lv_if_eq (tgt := 39) hx hb dX10_isRanged_11 (by decide) (fun _ => ?_) (fun h => absurd (by decide) h)
  refine lv_iconst (v := 0) hx hb dX10_isRanged_39 (by decide) ?_
  refine lv_goto (tgt := 84) hx hb dX10_isRanged_40 (by decide) ?_
  exact x_zret hx hb hr rfl rfl hlocks hP hD hS hAe hsz (Nat.le_of_ble_eq_true rfl) (Nat.le_of_ble_eq_true rfl) (fun _ => 0) [] (by decide) rfl dX10_isRanged_84

set_option maxHeartbeats 4000000 in
set_option maxRecDepth 100000 in
theorem c97_X10_added (l : Launch) (g : gG) (q1 : Nat) (x2 x3 x4 x5 : Int32) (w9 w10 w11 w12 w13 w14 w15 w16 w17 w18 w19 w20 w21 w22 w23 w24 w25 w26 w27 w28 w29 w30 w31 w32 w33 w34 w35 w36 w37 w38 w39 w40 w41 w42 w43 w44 w45 : Value) (h6 : (0 : Int32) ≤ x2) (h7 : x2 ≤ 7) (h8 : x3 < 0) (sz : Nat) : Met l yX10_added [Cond.code yX10_added cX10_added 6 (some .int)] ({ frames := 2, cells := 0, slots := 0, locals := 46 } : Room) (va_Pc [.ref q1, .int x2, .int 0, .int x3, .int x4, .int x5] (PX g sz [(q1, .inr (12, [w9, w10, w11, w12, w13, w14, w15, w16, w17, w18, w19, w20, w21, w22, w23, w24, w25, w26, w27, w28, w29, w30, w31, w32, w33, w34, w35, w36, w37, w38, w39, w40, w41, w42, w43, w44, w45]))])) (QI g [(q1, .inr (12, [w9, w10, w11, w12, w13, w14, w15, w16, w17, w18, w19, w20, w21, w22, w23, w24, w25, w26, w27, w28, w29, w30, w31, w32, w33, w34, w35, w36, w37, w38, w39, w40, w41, w42, w43, w44, w45]))] sz 0 (fun _ => [(q1, .inr (12, [w9, w10, w11, w12, w13, w14, .int 2, w16, w17, w18, w19, w20, w21, w22, w23, w24, w25, w26, w27, w28, w29, w30, w31, w32, w33, w34, w35, w36, w37, w38, w39, w40, w41, w42, w43, w44, w45]))])) 0 0 (va_A [(q1, .inr (12, [w9, w10, w11, w12, w13, w14, w15, w16, w17, w18, w19, w20, w21, w22, w23, w24, w25, w26, w27, w28, w29, w30, w31, w32, w33, w34, w35, w36, w37, w38, w39, w40, w41, w42, w43, w44, w45]))] sz) := by
  refine ofN (by decide) (Nat.le_of_ble_eq_true rfl) rfl ?_
  intro p e s m args below meth c A ls hAe hsz hx hb hml hr hlocks hin hown hE hP hD hA hS hl
  have hown : s.vm.findClass RX10 = some m.cls := hown
  refine lv_aload_n hx hb dX10_added_0 rfl (lv_at hl 0 rfl) ?_
  refine lv_iload_n hx hb dX10_added_1 rfl (lv_at hl 1 rfl) ?_
  refine g0_i (rS (rest := [.ref q1]) hx hb hml hown hE hP hD (c94_X10_isPattern l g x2 h6 h7 s.heap.size) (kS_X10_isPattern hE (e1428 hE) rfl rfl ⟨(Nat.le_of_ble_eq_true rfl), (Nat.le_of_ble_eq_true rfl)⟩) [] rfl (by decide) rfl hl.1 rfl (lv_room (Nat.le_of_ble_eq_true rfl)) dX10_added_2 ⟨(Nat.le_of_ble_eq_true rfl), (Nat.le_of_ble_eq_true rfl)⟩) hP hD hS hA (fun u9 H locs hP hS => ?_)
  refine lv_if_ne (tgt := 12) hx hb dX10_added_5 (by decide) (fun _ => ?_) (fun h => absurd h (by decide))
  refine lv_iload_n hx hb dX10_added_12 rfl (lv_at hl 1 rfl) ?_
  refine lv_iload_n hx hb dX10_added_13 rfl (lv_at hl 2 rfl) ?_
  refine lv_iload_n hx hb dX10_added_14 rfl (lv_at hl 3 rfl) ?_
  refine lv_iload hx hb dX10_added_15 (lv_at hl 4 rfl) ?_
  refine lv_iload hx hb dX10_added_17 (lv_at hl 5 rfl) ?_
  refine g0_i (rS (rest := [.ref q1]) hx hb hml hown hE hP hD (c96_X10_isRanged l g x2 x3 x4 x5 h8 H.size) (kS_X10_isRanged hE (e1434 hE) rfl rfl ⟨(Nat.le_of_ble_eq_true rfl), (Nat.le_of_ble_eq_true rfl)⟩) [] rfl (by decide) rfl hl.1 rfl (lv_room (Nat.le_of_ble_eq_true rfl)) dX10_added_19 ⟨(Nat.le_of_ble_eq_true rfl), (Nat.le_of_ble_eq_true rfl)⟩) hP hD hS hA (fun u9 H locs hP hS => ?_)
  refine lv_if_ne (tgt := 29) hx hb dX10_added_22 (by decide) (fun h => absurd h (by decide)) (fun _ => ?_)
  refine lv_iconst (v := 2) hx hb dX10_added_25 (by decide) ?_
  refine lv_goto (tgt := 30) hx hb dX10_added_26 (by decide) ?_
  refine pf_RX10_86 (ws' := [(q1, .inr (12, [w9, w10, w11, w12, w13, w14, .int 2, w16, w17, w18, w19, w20, w21, w22, w23, w24, w25, w26, w27, w28, w29, w30, w31, w32, w33, w34, w35, w36, w37, w38, w39, w40, w41, w42, w43, w44, w45]))]) hx hb hown hE hP hD hS 0 rfl rfl rfl (Nat.le_of_ble_eq_true rfl) dX10_added_30 rfl (fun H locs hP hD hS => ?_)
  refine lv_aload_n hx hb dX10_added_33 rfl (lv_at hl 0 rfl) ?_
  refine gf_RX10_86 hx hb hown hE hP 0 rfl rfl dX10_added_34 ?_
  refine lv_if_le (tgt := 42) hx hb dX10_added_37 (by decide) (fun h => absurd h (by decide)) (fun _ => ?_)
  refine lv_iconst (v := 0) hx hb dX10_added_40 (by decide) ?_
  exact x_zret hx hb hr rfl rfl hlocks hP hD hS hAe hsz (Nat.le_of_ble_eq_true rfl) (Nat.le_of_ble_eq_true rfl) (fun _ => 0) [0] (by decide) rfl dX10_added_41

set_option maxHeartbeats 4000000 in
set_option maxRecDepth 100000 in
theorem c98_X10_addNote (l : Launch) (g : gG) (q1 : Nat) (x2 x3 x4 x5 : Int32) (w6 w7 w8 w9 w10 w11 w12 w13 w14 w15 w16 w17 w18 w19 w20 w21 w22 w23 w24 w25 w26 w27 w28 w29 w30 w31 w32 w33 w34 w35 w36 w37 w38 w39 w40 w41 w42 : Value) (h43 : (0 : Int32) ≤ x2) (h44 : x2 ≤ 7) (h45 : x3 < 0) (sz : Nat) : Met l yX10_addNote [Cond.code yX10_addNote cX10_addNote 5 (some .int)] ({ frames := 3, cells := 0, slots := 0, locals := 71 } : Room) (va_Pc [.ref q1, .int x2, .int x3, .int x4, .int x5] (PX g sz [(q1, .inr (12, [w6, w7, w8, w9, w10, w11, w12, w13, w14, w15, w16, w17, w18, w19, w20, w21, w22, w23, w24, w25, w26, w27, w28, w29, w30, w31, w32, w33, w34, w35, w36, w37, w38, w39, w40, w41, w42]))])) (QI g [(q1, .inr (12, [w6, w7, w8, w9, w10, w11, w12, w13, w14, w15, w16, w17, w18, w19, w20, w21, w22, w23, w24, w25, w26, w27, w28, w29, w30, w31, w32, w33, w34, w35, w36, w37, w38, w39, w40, w41, w42]))] sz 0 (fun _ => [(q1, .inr (12, [w6, w7, w8, w9, w10, w11, .int 2, w13, w14, w15, w16, w17, w18, w19, w20, w21, w22, w23, w24, w25, w26, w27, w28, w29, w30, w31, w32, w33, w34, w35, w36, w37, w38, w39, w40, w41, w42]))])) 0 0 (va_A [(q1, .inr (12, [w6, w7, w8, w9, w10, w11, w12, w13, w14, w15, w16, w17, w18, w19, w20, w21, w22, w23, w24, w25, w26, w27, w28, w29, w30, w31, w32, w33, w34, w35, w36, w37, w38, w39, w40, w41, w42]))] sz) := by
  refine ofN (by decide) (Nat.le_of_ble_eq_true rfl) rfl ?_
  intro p e s m args below meth c A ls hAe hsz hx hb hml hr hlocks hin hown hE hP hD hA hS hl
  have hown : s.vm.findClass RX10 = some m.cls := hown
  refine lv_aload_n hx hb dX10_addNote_0 rfl (lv_at hl 0 rfl) ?_
  refine lv_iload_n hx hb dX10_addNote_1 rfl (lv_at hl 1 rfl) ?_
  refine lv_iconst (v := 0) hx hb dX10_addNote_2 (by decide) ?_
  refine lv_iload_n hx hb dX10_addNote_3 rfl (lv_at hl 2 rfl) ?_
  refine lv_iload_n hx hb dX10_addNote_4 rfl (lv_at hl 3 rfl) ?_
  refine lv_iload hx hb dX10_addNote_5 (lv_at hl 4 rfl) ?_
  refine g_i (wr := []) (rV (rest := []) hx hb hml hown hE hP hD 0 rfl rfl (c97_X10_added l g q1 x2 x3 x4 x5 w6 w7 w8 w9 w10 w11 w12 w13 w14 w15 w16 w17 w18 w19 w20 w21 w22 w23 w24 w25 w26 w27 w28 w29 w30 w31 w32 w33 w34 w35 w36 w37 w38 w39 w40 w41 w42 h43 h44 h45 s.heap.size) (kV_X10_added hE (e1424 hE) rfl rfl ⟨(Nat.le_of_ble_eq_true rfl), (Nat.le_of_ble_eq_true rfl)⟩) [0] rfl (by decide) rfl hl.1 rfl (lv_room (Nat.le_of_ble_eq_true rfl)) dX10_addNote_7 ⟨(Nat.le_of_ble_eq_true rfl), (Nat.le_of_ble_eq_true rfl)⟩) hP hD hS hA [0] [] rfl rfl (by decide) (by decide) (fun u1 H locs hP hD hS => ?_)
  have hP : va_P g.1 vwCl [(q1, .inr (12, [w6, w7, w8, w9, w10, w11, .int 2, w13, w14, w15, w16, w17, w18, w19, w20, w21, w22, w23, w24, w25, w26, w27, w28, w29, w30, w31, w32, w33, w34, w35, w36, w37, w38, w39, w40, w41, w42]))] H := hP
  have hD : va_D A [(q1, .inr (12, [w6, w7, w8, w9, w10, w11, .int 2, w13, w14, w15, w16, w17, w18, w19, w20, w21, w22, w23, w24, w25, w26, w27, w28, w29, w30, w31, w32, w33, w34, w35, w36, w37, w38, w39, w40, w41, w42]))] := hD
  exact x_zret hx hb hr rfl rfl hlocks hP hD hS hAe hsz (Nat.le_of_ble_eq_true rfl) (Nat.le_of_ble_eq_true rfl) (fun _ => 0) [0] (by decide) rfl dX10_addNote_10

set_option maxHeartbeats 4000000 in
set_option maxRecDepth 100000 in
theorem c99_X9_requireRange (l : Launch) (g : gG) (x1 : Int32) (h2 : (0 : Int32) ≤ x1) (h3 : x1 ≤ 99) (sz : Nat) : Met l yX9_requireRange [Cond.code yX9_requireRange cX9_requireRange 3 none] ({ frames := 0, cells := 0, slots := 0, locals := 0 } : Room) (va_Pc [.int x1, .int 0, .int 99] (PX g sz [])) (QV g [] sz (fun _ => [])) 0 0 (va_A [] sz) := by
  refine ofN (by decide) (Nat.le_of_ble_eq_true rfl) rfl ?_
  intro p e s m args below meth c A ls hAe hsz hx hb hml hr hlocks hin hown hE hP hD hA hS hl
  have hown : s.vm.findClass RX9 = some m.cls := hown
  refine lv_iload_n hx hb dX9_requireRange_0 rfl (lv_at hl 0 rfl) ?_
  refine lv_iload_n hx hb dX9_requireRange_1 rfl (lv_at hl 1 rfl) ?_
  refine lv_icmp_lt (tgt := 10) hx hb dX9_requireRange_2 (by decide) (fun h => absurd h (i_nlt h2)) (fun _ => ?_)
  refine lv_iload_n hx hb dX9_requireRange_5 rfl (lv_at hl 0 rfl) ?_
  refine lv_iload_n hx hb dX9_requireRange_6 rfl (lv_at hl 2 rfl) ?_
  refine lv_icmp_le (tgt := 21) hx hb dX9_requireRange_7 (by decide) (fun _ => ?_) (fun h => absurd h3 h)
  exact x_vret hx hb hr hlocks hP hD hS hAe hsz (Nat.le_of_ble_eq_true rfl) (Nat.le_of_ble_eq_true rfl) (fun _ => 0) [] (by decide) rfl dX9_requireRange_21

set_option maxHeartbeats 4000000 in
set_option maxRecDepth 100000 in
theorem c100_X9_requireRange (l : Launch) (g : gG) (hlx : l.stackTraces = false) (x1 : Int32) (h2 : x1 < 1) (sz : Nat) : vx_Met l yX9_requireRange [Cond.code yX9_requireRange cX9_requireRange 3 none] ({ frames := 6, cells := 1, slots := 6, locals := 100 } : Room) (va_Pc [.int x1, .int 1, .int 16] (PZ g sz [])) NV (XW g [] sz "java/lang/IllegalArgumentException" []) 1 6 (va_A [] sz) := by
  refine ofX (by decide) (Nat.le_of_ble_eq_true rfl) rfl ?_
  intro p e s m args below meth c A ls hAe hsz hx hb hml hr hlocks hin hown hE hP hD hA hS hl hex hz
  have hown : s.vm.findClass RX9 = some m.cls := hown
  refine lv_iload_n hx hb dX9_requireRange_0 rfl (lv_at hl 0 rfl) ?_
  refine lv_iload_n hx hb dX9_requireRange_1 rfl (lv_at hl 1 rfl) ?_
  refine lv_icmp_lt (tgt := 10) hx hb dX9_requireRange_2 (by decide) (fun _ => ?_) (fun h => absurd h2 h)
  exact x_throwW (text := "a number is out of range") (names := ["java/lang/RuntimeException", "java/lang/Exception"]) hx hb hlx hown hE (by decide) (by decide) (e639 hE) (e20 hE) (by decide +kernel) (th_215 hE) tg_215_211 hz (by rw [hml]; exact hl.1) dX9_requireRange_10 dX9_requireRange_13 dX9_requireRange_14 dX9_requireRange_17 dX9_requireRange_20 hex (Nat.le_of_ble_eq_true rfl) (Nat.le_of_ble_eq_true rfl) (Nat.le_of_ble_eq_true rfl) (Nat.le_of_ble_eq_true rfl) hlocks hP hD hS hAe hsz (Nat.le_of_ble_eq_true rfl) (Nat.le_of_ble_eq_true rfl) [] (by decide) rfl

set_option maxHeartbeats 4000000 in
set_option maxRecDepth 100000 in
theorem c101_X9_addNote (l : Launch) (g : gG) (hlx : l.stackTraces = false) (q1 : Nat) (x2 x3 x4 x5 : Int32) (h6 : (0 : Int32) ≤ x2) (h7 : x2 < 8) (h8 : (0 : Int32) ≤ x3) (h9 : x3 ≤ 99) (h10 : x4 < 1) (sz : Nat) : vx_Met l yX9_addNote [Cond.code yX9_addNote cX9_addNote 5 (some .int)] ({ frames := 7, cells := 1, slots := 6, locals := 122 } : Room) (va_Pc [.ref q1, .int x2, .int x3, .int x4, .int x5] (PZ g sz [])) NI (XW g [] sz "java/lang/IllegalArgumentException" []) 1 6 (va_A [] sz) := by
  refine ofX (by decide) (Nat.le_of_ble_eq_true rfl) rfl ?_
  intro p e s m args below meth c A ls hAe hsz hx hb hml hr hlocks hin hown hE hP hD hA hS hl hex hz
  have hown : s.vm.findClass RX9 = some m.cls := hown
  refine lv_iload_n hx hb dX9_addNote_0 rfl (lv_at hl 1 rfl) ?_
  refine g0_v (rS (rest := []) hx hb hml hown hE hP hD (c89_X9_requirePattern l g x2 h6 h7 s.heap.size) (kS_X9_requirePattern hE (e617 hE) rfl rfl ⟨(Nat.le_of_ble_eq_true rfl), (Nat.le_of_ble_eq_true rfl)⟩) [] rfl (by decide) rfl hl.1 rfl (lv_room (Nat.le_of_ble_eq_true rfl)) dX9_addNote_1 ⟨(Nat.le_of_ble_eq_true rfl), (Nat.le_of_ble_eq_true rfl)⟩) hP hD hS hA (fun u9 H locs hP hS => ?_)
  refine lv_iload_n hx hb dX9_addNote_4 rfl (lv_at hl 2 rfl) ?_
  refine lv_iconst (v := 0) hx hb dX9_addNote_5 (by decide) ?_
  refine lv_bipush (v := 99) hx hb dX9_addNote_6 (by decide) ?_
  refine g0_v (rS (rest := []) hx hb hml hown hE hP hD (c99_X9_requireRange l g x3 h8 h9 H.size) (kS_X9_requireRange hE (e636 hE) rfl rfl ⟨(Nat.le_of_ble_eq_true rfl), (Nat.le_of_ble_eq_true rfl)⟩) [] rfl (by decide) rfl hl.1 rfl (lv_room (Nat.le_of_ble_eq_true rfl)) dX9_addNote_8 ⟨(Nat.le_of_ble_eq_true rfl), (Nat.le_of_ble_eq_true rfl)⟩) hP hD hS hA (fun u9 H locs hP hS => ?_)
  refine lv_iload_n hx hb dX9_addNote_11 rfl (lv_at hl 3 rfl) ?_
  refine lv_iconst (v := 1) hx hb dX9_addNote_12 (by decide) ?_
  refine lv_bipush (v := 16) hx hb dX9_addNote_13 (by decide) ?_
  refine gx_v (wr := []) (rSx (rest := []) hx hb hml hown hE hP hD hS hA hz (c100_X9_requireRange l g hlx x4 h10 H.size) (kS_X9_requireRange hE (e636 hE) rfl rfl ⟨(Nat.le_of_ble_eq_true rfl), (Nat.le_of_ble_eq_true rfl)⟩) [] rfl (by decide) rfl hl.1 rfl (lv_room (Nat.le_of_ble_eq_true rfl)) dX9_addNote_15 ⟨(Nat.le_of_ble_eq_true rfl), (Nat.le_of_ble_eq_true rfl)⟩) hP hD hS hA [] [] rfl rfl (by decide) (by decide) (fun ce9 q9 H locs hP hD hS hq1 hq2 hq3 => ?_)
  exact x_out hex hlocks hq1 hq2 hq3 hP hD hS hAe hsz (Nat.le_of_ble_eq_true rfl) (Nat.le_of_ble_eq_true rfl) [] (by decide) rfl

set_option maxHeartbeats 4000000 in
set_option maxRecDepth 100000 in
theorem c102_L_addNote (l : Launch) (g : gG) (hlx : l.stackTraces = false) (q1 q6 : Nat) (x2 x3 x4 x5 : Int32) (w12 w13 w14 w15 w16 w17 w18 w19 w20 w21 w22 : Value) (h7 : (0 : Int32) ≤ x2) (h8 : x2 < 8) (h9 : (0 : Int32) ≤ x3) (h10 : x3 ≤ 99) (h11 : x4 < 1) (sz : Nat) : Met l yL_addNote [Cond.codeWith yL_addNote cL_addNote 7 (some .int) [(0, 14, 17, 13), (0, 14, 21, 15), (0, 14, 25, 17)]] ({ frames := 8, cells := 1, slots := 6, locals := 146 } : Room) (va_Pc [.ref q1, .int x2, .int x3, .int x4, .int x5, .ref q6] (PZ g sz [(q1, .inr (11, [w12, w13, w14, w15, w16, w17, w18, w19, w20, w21, w22]))])) (QI g [(q1, .inr (11, [w12, w13, w14, w15, w16, w17, w18, w19, w20, w21, w22]))] sz 2 (fun _ => [])) 1 6 (va_A [(q1, .inr (11, [w12, w13, w14, w15, w16, w17, w18, w19, w20, w21, w22]))] sz) := by
  refine ofH (by decide) (Nat.le_of_ble_eq_true rfl) rfl ?_
  intro p e s m args below meth c A ls hAe hsz hx hb hml hr hlocks hin hown hE hP hD hA hS hl htb hz
  have hown : s.vm.findClass RL = some m.cls := hown
  refine lv_aload hx hb dL_addNote_0 (lv_at hl 5 rfl) ?_
  refine lv_iconst (v := 0) hx hb dL_addNote_2 (by decide) ?_
  refine lv_aload_n hx hb dL_addNote_3 rfl (lv_at hl 0 rfl) ?_
  refine lv_iload_n hx hb dL_addNote_4 rfl (lv_at hl 1 rfl) ?_
  refine lv_iload_n hx hb dL_addNote_5 rfl (lv_at hl 2 rfl) ?_
  refine lv_iload_n hx hb dL_addNote_6 rfl (lv_at hl 3 rfl) ?_
  refine lv_iload hx hb dL_addNote_7 (lv_at hl 4 rfl) ?_
  refine gx_i (wr := [(q1, .inr (11, [w12, w13, w14, w15, w16, w17, w18, w19, w20, w21, w22]))]) (rVx (rest := [.int 0, .ref q6]) hx hb hml hown hE hP hD hS hA hz 0 rfl rfl (c101_X9_addNote l g hlx q1 x2 x3 x4 x5 h7 h8 h9 h10 h11 s.heap.size) (kV_X9_addNote hE (e613 hE) rfl rfl ⟨(Nat.le_of_ble_eq_true rfl), (Nat.le_of_ble_eq_true rfl)⟩) [] rfl (by decide) rfl hl.1 rfl (lv_room (Nat.le_of_ble_eq_true rfl)) dL_addNote_9 ⟨(Nat.le_of_ble_eq_true rfl), (Nat.le_of_ble_eq_true rfl)⟩) hP hD hS hA [] [0] rfl rfl (by decide) (by decide) (fun ce9 q9 H locs hP hD hS hq1 hq2 hq3 => ?_)
  have hP : va_P g.1 vwCl [(q1, .inr (11, [w12, w13, w14, w15, w16, w17, w18, w19, w20, w21, w22]))] H := hP
  have hD : va_D A [(q1, .inr (11, [w12, w13, w14, w15, w16, w17, w18, w19, w20, w21, w22]))] := hD
  refine x_catch (name := "java/lang/IllegalArgumentException") (hh := [(0, 14, 17, 13), (0, 14, 21, 15), (0, 14, 25, 17)]) (tgt := 21) hown htb [⟨0, 14, 17, 13⟩] ⟨0, 14, 21, 15⟩ [⟨0, 14, 25, 17⟩] rfl (fun z hz => by
    rcases List.mem_cons.mp hz with rfl | hz
    · exact Or.inr ⟨by decide, "java/lang/IndexOutOfBoundsException", e532 hE, hE.2.2.2.2.2 ("java/lang/IllegalArgumentException", "java/lang/IndexOutOfBoundsException") (by decide +kernel)⟩
    exact nomatch hz) rfl (by decide) (e611 hE) (e641 hE) hq1 hq2 hq3 rfl ?_
  refine lv_astore (lv' := [(6, .ref q9), (0, .ref q1), (1, .int x2), (2, .int x3), (3, .int x4), (4, .int x5), (5, .ref q6)]) hx hb dL_addNote_21 hl (by decide) rfl (fun ls hl => ?_)
  refine lv_iconst (v := 2) hx hb dL_addNote_23 (by decide) ?_
  exact x_zret hx hb hr rfl rfl hlocks hP hD hS hAe hsz (Nat.le_of_ble_eq_true rfl) (Nat.le_of_ble_eq_true rfl) (fun _ => 0) [] (by decide) rfl dL_addNote_24

set_option maxHeartbeats 4000000 in
set_option maxRecDepth 100000 in
theorem c103_X10_in (l : Launch) (g : gG) (x1 : Int32) (h2 : (0 : Int32) ≤ x1) (h3 : x1 ≤ 99) (sz : Nat) : Met l yX10_in [Cond.code yX10_in cX10_in 3 (some .boolean)] ({ frames := 0, cells := 0, slots := 0, locals := 0 } : Room) (va_Pc [.int x1, .int 0, .int 99] (PX g sz [])) (QI g [] sz 1 (fun _ => [])) 0 0 (va_A [] sz) := by
  refine ofN (by decide) (Nat.le_of_ble_eq_true rfl) rfl ?_
  intro p e s m args below meth c A ls hAe hsz hx hb hml hr hlocks hin hown hE hP hD hA hS hl
  have hown : s.vm.findClass RX10 = some m.cls := hown
  refine lv_iload_n hx hb dX10_in_0 rfl (lv_at hl 0 rfl) ?_
  refine lv_iload_n hx hb dX10_in_1 rfl (lv_at hl 1 rfl) ?_
  refine lv_icmp_lt (tgt := 14) hx hb dX10_in_2 (by decide) (fun h => absurd h (i_nlt h2)) (fun _ => ?_)
  refine lv_iload_n hx hb dX10_in_5 rfl (lv_at hl 0 rfl) ?_
  refine lv_iload_n hx hb dX10_in_6 rfl (lv_at hl 2 rfl) ?_
  refine lv_icmp_gt (tgt := 14) hx hb dX10_in_7 (by decide) (fun h => absurd h (i_nlt h3)) (fun _ => ?_)
  refine lv_iconst (v := 1) hx hb dX10_in_10 (by decide) ?_
  refine lv_goto (tgt := 15) hx hb dX10_in_11 (by decide) ?_
  exact x_zret hx hb hr rfl rfl hlocks hP hD hS hAe hsz (Nat.le_of_ble_eq_true rfl) (Nat.le_of_ble_eq_true rfl) (fun _ => 0) [] (by decide) rfl dX10_in_15

set_option maxHeartbeats 4000000 in
set_option maxRecDepth 100000 in
theorem c104_X10_in (l : Launch) (g : gG) (x1 : Int32) (h2 : x1 < 1) (sz : Nat) : Met l yX10_in [Cond.code yX10_in cX10_in 3 (some .boolean)] ({ frames := 0, cells := 0, slots := 0, locals := 0 } : Room) (va_Pc [.int x1, .int 1, .int 16] (PX g sz [])) (QI g [] sz 0 (fun _ => [])) 0 0 (va_A [] sz) := by
  refine ofN (by decide) (Nat.le_of_ble_eq_true rfl) rfl ?_
  intro p e s m args below meth c A ls hAe hsz hx hb hml hr hlocks hin hown hE hP hD hA hS hl
  have hown : s.vm.findClass RX10 = some m.cls := hown
  refine lv_iload_n hx hb dX10_in_0 rfl (lv_at hl 0 rfl) ?_
  refine lv_iload_n hx hb dX10_in_1 rfl (lv_at hl 1 rfl) ?_
  refine lv_icmp_lt (tgt := 14) hx hb dX10_in_2 (by decide) (fun _ => ?_) (fun h => absurd h2 h)
  refine lv_iconst (v := 0) hx hb dX10_in_14 (by decide) ?_
  exact x_zret hx hb hr rfl rfl hlocks hP hD hS hAe hsz (Nat.le_of_ble_eq_true rfl) (Nat.le_of_ble_eq_true rfl) (fun _ => 0) [] (by decide) rfl dX10_in_15

set_option maxHeartbeats 4000000 in
set_option maxRecDepth 100000 in
theorem c105_X10_isRanged (l : Launch) (g : gG) (x1 x2 x3 x4 : Int32) (h5 : (0 : Int32) ≤ x2) (h6 : x2 ≤ 99) (h7 : x3 < 1) (sz : Nat) : Met l yX10_isRanged [Cond.code yX10_isRanged cX10_isRanged 5 (some .boolean)] ({ frames := 1, cells := 0, slots := 0, locals := 22 } : Room) (va_Pc [.int x1, .int 0, .int x2, .int x3, .int x4] (PX g sz [])) (QI g [] sz 0 (fun _ => [])) 0 0 (va_A [] sz) := by
  refine ofN (by decide) (Nat.le_of_ble_eq_true rfl) rfl ?_
  intro p e s m args below meth c A ls hAe hsz hx hb hml hr hlocks hin hown hE hP hD hA hS hl
  have hown : s.vm.findClass RX10 = some m.cls := hown
  refine lv_iload_n hx hb dX10_isRanged_0 rfl (lv_at hl 1 rfl) ?_
  refine lv_if_ne (tgt := 43) hx hb dX10_isRanged_1 (by decide) (fun h => absurd h (by decide)) (fun _ => ?_)
  refine lv_iload_n hx hb dX10_isRanged_4 rfl (lv_at hl 2 rfl) ?_
  refine lv_iconst (v := 0) hx hb dX10_isRanged_5 (by decide) ?_
  refine lv_bipush (v := 99) hx hb dX10_isRanged_6 (by decide) ?_
  refine g0_i (rS (rest := []) hx hb hml hown hE hP hD (c103_X10_in l g x2 h5 h6 s.heap.size) (kS_X10_in hE (e1431 hE) rfl rfl ⟨(Nat.le_of_ble_eq_true rfl), (Nat.le_of_ble_eq_true rfl)⟩) [] rfl (by decide) rfl hl.1 rfl (lv_room (Nat.le_of_ble_eq_true rfl)) dX10_isRanged_8 ⟨(Nat.le_of_ble_eq_true rfl), (Nat.le_of_ble_eq_true rfl)⟩) hP hD hS hA (fun u9 H locs hP hS => ?_)
  refine lv_if_eq (tgt := 39) hx hb dX10_isRanged_11 (by decide) (fun h => absurd h (by decide)) (fun _ => ?_)
  refine lv_iload_n hx hb dX10_isRanged_14 rfl (lv_at hl 3 rfl) ?_
  refine lv_iconst (v := 1) hx hb dX10_isRanged_15 (by decide) ?_
  refine lv_bipush (v := 16) hx hb dX10_isRanged_16 (by decide) ?_
  refine g0_i (rS (rest := []) hx hb hml hown hE hP hD (c104_X10_in l g x3 h7 H.size) (kS_X10_in hE (e1431 hE) rfl rfl ⟨(Nat.le_of_ble_eq_true rfl), (Nat.le_of_ble_eq_true rfl)⟩) [] rfl (by decide) rfl hl.1 rfl (lv_room (Nat.le_of_ble_eq_true rfl)) dX10_isRanged_18 ⟨(Nat.le_of_ble_eq_true rfl), (Nat.le_of_ble_eq_true rfl)⟩) hP hD hS hA (fun u9 H locs hP hS => ?_)
  refine lv_if_eq (tgt := 39) hx hb dX10_isRanged_21 (by decide) (fun _ => ?_) (fun h => absurd (by decide) h)
  refine lv_iconst (v := 0) hx hb dX10_isRanged_39 (by decide) ?_
  refine lv_goto (tgt := 84) hx hb dX10_isRanged_40 (by decide) ?_
  exact x_zret hx hb hr rfl rfl hlocks hP hD hS hAe hsz (Nat.le_of_ble_eq_true rfl) (Nat.le_of_ble_eq_true rfl) (fun _ => 0) [] (by decide) rfl dX10_isRanged_84

set_option maxHeartbeats 4000000 in
set_option maxRecDepth 100000 in
theorem c106_X10_added (l : Launch) (g : gG) (q1 : Nat) (x2 x3 x4 x5 : Int32) (w11 w12 w13 w14 w15 w16 w17 w18 w19 w20 w21 w22 w23 w24 w25 w26 w27 w28 w29 w30 w31 w32 w33 w34 w35 w36 w37 w38 w39 w40 w41 w42 w43 w44 w45 w46 w47 : Value) (h6 : (0 : Int32) ≤ x2) (h7 : x2 ≤ 7) (h8 : (0 : Int32) ≤ x3) (h9 : x3 ≤ 99) (h10 : x4 < 1) (sz : Nat) : Met l yX10_added [Cond.code yX10_added cX10_added 6 (some .int)] ({ frames := 2, cells := 0, slots := 0, locals := 46 } : Room) (va_Pc [.ref q1, .int x2, .int 0, .int x3, .int x4, .int x5] (PX g sz [(q1, .inr (12, [w11, w12, w13, w14, w15, w16, w17, w18, w19, w20, w21, w22, w23, w24, w25, w26, w27, w28, w29, w30, w31, w32, w33, w34, w35, w36, w37, w38, w39, w40, w41, w42, w43, w44, w45, w46, w47]))])) (QI g [(q1, .inr (12, [w11, w12, w13, w14, w15, w16, w17, w18, w19, w20, w21, w22, w23, w24, w25, w26, w27, w28, w29, w30, w31, w32, w33, w34, w35, w36, w37, w38, w39, w40, w41, w42, w43, w44, w45, w46, w47]))] sz 0 (fun _ => [(q1, .inr (12, [w11, w12, w13, w14, w15, w16, .int 2, w18, w19, w20, w21, w22, w23, w24, w25, w26, w27, w28, w29, w30, w31, w32, w33, w34, w35, w36, w37, w38, w39, w40, w41, w42, w43, w44, w45, w46, w47]))])) 0 0 (va_A [(q1, .inr (12, [w11, w12, w13, w14, w15, w16, w17, w18, w19, w20, w21, w22, w23, w24, w25, w26, w27, w28, w29, w30, w31, w32, w33, w34, w35, w36, w37, w38, w39, w40, w41, w42, w43, w44, w45, w46, w47]))] sz) := by
  refine ofN (by decide) (Nat.le_of_ble_eq_true rfl) rfl ?_
  intro p e s m args below meth c A ls hAe hsz hx hb hml hr hlocks hin hown hE hP hD hA hS hl
  have hown : s.vm.findClass RX10 = some m.cls := hown
  refine lv_aload_n hx hb dX10_added_0 rfl (lv_at hl 0 rfl) ?_
  refine lv_iload_n hx hb dX10_added_1 rfl (lv_at hl 1 rfl) ?_
  refine g0_i (rS (rest := [.ref q1]) hx hb hml hown hE hP hD (c94_X10_isPattern l g x2 h6 h7 s.heap.size) (kS_X10_isPattern hE (e1428 hE) rfl rfl ⟨(Nat.le_of_ble_eq_true rfl), (Nat.le_of_ble_eq_true rfl)⟩) [] rfl (by decide) rfl hl.1 rfl (lv_room (Nat.le_of_ble_eq_true rfl)) dX10_added_2 ⟨(Nat.le_of_ble_eq_true rfl), (Nat.le_of_ble_eq_true rfl)⟩) hP hD hS hA (fun u9 H locs hP hS => ?_)
  refine lv_if_ne (tgt := 12) hx hb dX10_added_5 (by decide) (fun _ => ?_) (fun h => absurd h (by decide))
  refine lv_iload_n hx hb dX10_added_12 rfl (lv_at hl 1 rfl) ?_
  refine lv_iload_n hx hb dX10_added_13 rfl (lv_at hl 2 rfl) ?_
  refine lv_iload_n hx hb dX10_added_14 rfl (lv_at hl 3 rfl) ?_
  refine lv_iload hx hb dX10_added_15 (lv_at hl 4 rfl) ?_
  refine lv_iload hx hb dX10_added_17 (lv_at hl 5 rfl) ?_
  refine g0_i (rS (rest := [.ref q1]) hx hb hml hown hE hP hD (c105_X10_isRanged l g x2 x3 x4 x5 h8 h9 h10 H.size) (kS_X10_isRanged hE (e1434 hE) rfl rfl ⟨(Nat.le_of_ble_eq_true rfl), (Nat.le_of_ble_eq_true rfl)⟩) [] rfl (by decide) rfl hl.1 rfl (lv_room (Nat.le_of_ble_eq_true rfl)) dX10_added_19 ⟨(Nat.le_of_ble_eq_true rfl), (Nat.le_of_ble_eq_true rfl)⟩) hP hD hS hA (fun u9 H locs hP hS => ?_)
  refine lv_if_ne (tgt := 29) hx hb dX10_added_22 (by decide) (fun h => absurd h (by decide)) (fun _ => ?_)
  refine lv_iconst (v := 2) hx hb dX10_added_25 (by decide) ?_
  refine lv_goto (tgt := 30) hx hb dX10_added_26 (by decide) ?_
  refine pf_RX10_86 (ws' := [(q1, .inr (12, [w11, w12, w13, w14, w15, w16, .int 2, w18, w19, w20, w21, w22, w23, w24, w25, w26, w27, w28, w29, w30, w31, w32, w33, w34, w35, w36, w37, w38, w39, w40, w41, w42, w43, w44, w45, w46, w47]))]) hx hb hown hE hP hD hS 0 rfl rfl rfl (Nat.le_of_ble_eq_true rfl) dX10_added_30 rfl (fun H locs hP hD hS => ?_)
  refine lv_aload_n hx hb dX10_added_33 rfl (lv_at hl 0 rfl) ?_
  refine gf_RX10_86 hx hb hown hE hP 0 rfl rfl dX10_added_34 ?_
  refine lv_if_le (tgt := 42) hx hb dX10_added_37 (by decide) (fun h => absurd h (by decide)) (fun _ => ?_)
  refine lv_iconst (v := 0) hx hb dX10_added_40 (by decide) ?_
  exact x_zret hx hb hr rfl rfl hlocks hP hD hS hAe hsz (Nat.le_of_ble_eq_true rfl) (Nat.le_of_ble_eq_true rfl) (fun _ => 0) [0] (by decide) rfl dX10_added_41

set_option maxHeartbeats 4000000 in
set_option maxRecDepth 100000 in
theorem c107_X10_addNote (l : Launch) (g : gG) (q1 : Nat) (x2 x3 x4 x5 : Int32) (w6 w7 w8 w9 w10 w11 w12 w13 w14 w15 w16 w17 w18 w19 w20 w21 w22 w23 w24 w25 w26 w27 w28 w29 w30 w31 w32 w33 w34 w35 w36 w37 w38 w39 w40 w41 w42 : Value) (h43 : (0 : Int32) ≤ x2) (h44 : x2 ≤ 7) (h45 : (0 : Int32) ≤ x3) (h46 : x3 ≤ 99) (h47 : x4 < 1) (sz : Nat) : Met l yX10_addNote [Cond.code yX10_addNote cX10_addNote 5 (some .int)] ({ frames := 3, cells := 0, slots := 0, locals := 71 } : Room) (va_Pc [.ref q1, .int x2, .int x3, .int x4, .int x5] (PX g sz [(q1, .inr (12, [w6, w7, w8, w9, w10, w11, w12, w13, w14, w15, w16, w17, w18, w19, w20, w21, w22, w23, w24, w25, w26, w27, w28, w29, w30, w31, w32, w33, w34, w35, w36, w37, w38, w39, w40, w41, w42]))])) (QI g [(q1, .inr (12, [w6, w7, w8, w9, w10, w11, w12, w13, w14, w15, w16, w17, w18, w19, w20, w21, w22, w23, w24, w25, w26, w27, w28, w29, w30, w31, w32, w33, w34, w35, w36, w37, w38, w39, w40, w41, w42]))] sz 0 (fun _ => [(q1, .inr (12, [w6, w7, w8, w9, w10, w11, .int 2, w13, w14, w15, w16, w17, w18, w19, w20, w21, w22, w23, w24, w25, w26, w27, w28, w29, w30, w31, w32, w33, w34, w35, w36, w37, w38, w39, w40, w41, w42]))])) 0 0 (va_A [(q1, .inr (12, [w6, w7, w8, w9, w10, w11, w12, w13, w14, w15, w16, w17, w18, w19, w20, w21, w22, w23, w24, w25, w26, w27, w28, w29, w30, w31, w32, w33, w34, w35, w36, w37, w38, w39, w40, w41, w42]))] sz) := by
  refine ofN (by decide) (Nat.le_of_ble_eq_true rfl) rfl ?_
  intro p e s m args below meth c A ls hAe hsz hx hb hml hr hlocks hin hown hE hP hD hA hS hl
  have hown : s.vm.findClass RX10 = some m.cls := hown
  refine lv_aload_n hx hb dX10_addNote_0 rfl (lv_at hl 0 rfl) ?_
  refine lv_iload_n hx hb dX10_addNote_1 rfl (lv_at hl 1 rfl) ?_
  refine lv_iconst (v := 0) hx hb dX10_addNote_2 (by decide) ?_
  refine lv_iload_n hx hb dX10_addNote_3 rfl (lv_at hl 2 rfl) ?_
  refine lv_iload_n hx hb dX10_addNote_4 rfl (lv_at hl 3 rfl) ?_
  refine lv_iload hx hb dX10_addNote_5 (lv_at hl 4 rfl) ?_
  refine g_i (wr := []) (rV (rest := []) hx hb hml hown hE hP hD 0 rfl rfl (c106_X10_added l g q1 x2 x3 x4 x5 w6 w7 w8 w9 w10 w11 w12 w13 w14 w15 w16 w17 w18 w19 w20 w21 w22 w23 w24 w25 w26 w27 w28 w29 w30 w31 w32 w33 w34 w35 w36 w37 w38 w39 w40 w41 w42 h43 h44 h45 h46 h47 s.heap.size) (kV_X10_added hE (e1424 hE) rfl rfl ⟨(Nat.le_of_ble_eq_true rfl), (Nat.le_of_ble_eq_true rfl)⟩) [0] rfl (by decide) rfl hl.1 rfl (lv_room (Nat.le_of_ble_eq_true rfl)) dX10_addNote_7 ⟨(Nat.le_of_ble_eq_true rfl), (Nat.le_of_ble_eq_true rfl)⟩) hP hD hS hA [0] [] rfl rfl (by decide) (by decide) (fun u1 H locs hP hD hS => ?_)
  have hP : va_P g.1 vwCl [(q1, .inr (12, [w6, w7, w8, w9, w10, w11, .int 2, w13, w14, w15, w16, w17, w18, w19, w20, w21, w22, w23, w24, w25, w26, w27, w28, w29, w30, w31, w32, w33, w34, w35, w36, w37, w38, w39, w40, w41, w42]))] H := hP
  have hD : va_D A [(q1, .inr (12, [w6, w7, w8, w9, w10, w11, .int 2, w13, w14, w15, w16, w17, w18, w19, w20, w21, w22, w23, w24, w25, w26, w27, w28, w29, w30, w31, w32, w33, w34, w35, w36, w37, w38, w39, w40, w41, w42]))] := hD
  exact x_zret hx hb hr rfl rfl hlocks hP hD hS hAe hsz (Nat.le_of_ble_eq_true rfl) (Nat.le_of_ble_eq_true rfl) (fun _ => 0) [0] (by decide) rfl dX10_addNote_10

set_option maxHeartbeats 4000000 in
set_option maxRecDepth 100000 in
theorem c108_X9_requireRange (l : Launch) (g : gG) (x1 : Int32) (h2 : (1 : Int32) ≤ x1) (h3 : x1 ≤ 16) (sz : Nat) : Met l yX9_requireRange [Cond.code yX9_requireRange cX9_requireRange 3 none] ({ frames := 0, cells := 0, slots := 0, locals := 0 } : Room) (va_Pc [.int x1, .int 1, .int 16] (PX g sz [])) (QV g [] sz (fun _ => [])) 0 0 (va_A [] sz) := by
  refine ofN (by decide) (Nat.le_of_ble_eq_true rfl) rfl ?_
  intro p e s m args below meth c A ls hAe hsz hx hb hml hr hlocks hin hown hE hP hD hA hS hl
  have hown : s.vm.findClass RX9 = some m.cls := hown
  refine lv_iload_n hx hb dX9_requireRange_0 rfl (lv_at hl 0 rfl) ?_
  refine lv_iload_n hx hb dX9_requireRange_1 rfl (lv_at hl 1 rfl) ?_
  refine lv_icmp_lt (tgt := 10) hx hb dX9_requireRange_2 (by decide) (fun h => absurd h (i_nlt h2)) (fun _ => ?_)
  refine lv_iload_n hx hb dX9_requireRange_5 rfl (lv_at hl 0 rfl) ?_
  refine lv_iload_n hx hb dX9_requireRange_6 rfl (lv_at hl 2 rfl) ?_
  refine lv_icmp_le (tgt := 21) hx hb dX9_requireRange_7 (by decide) (fun _ => ?_) (fun h => absurd h3 h)
  exact x_vret hx hb hr hlocks hP hD hS hAe hsz (Nat.le_of_ble_eq_true rfl) (Nat.le_of_ble_eq_true rfl) (fun _ => 0) [] (by decide) rfl dX9_requireRange_21

set_option maxHeartbeats 4000000 in
set_option maxRecDepth 100000 in
theorem c109_X9_requireRange (l : Launch) (g : gG) (hlx : l.stackTraces = false) (x1 : Int32) (h2 : x1 < 1) (sz : Nat) : vx_Met l yX9_requireRange [Cond.code yX9_requireRange cX9_requireRange 3 none] ({ frames := 6, cells := 1, slots := 6, locals := 100 } : Room) (va_Pc [.int x1, .int 1, .int 9] (PZ g sz [])) NV (XW g [] sz "java/lang/IllegalArgumentException" []) 1 6 (va_A [] sz) := by
  refine ofX (by decide) (Nat.le_of_ble_eq_true rfl) rfl ?_
  intro p e s m args below meth c A ls hAe hsz hx hb hml hr hlocks hin hown hE hP hD hA hS hl hex hz
  have hown : s.vm.findClass RX9 = some m.cls := hown
  refine lv_iload_n hx hb dX9_requireRange_0 rfl (lv_at hl 0 rfl) ?_
  refine lv_iload_n hx hb dX9_requireRange_1 rfl (lv_at hl 1 rfl) ?_
  refine lv_icmp_lt (tgt := 10) hx hb dX9_requireRange_2 (by decide) (fun _ => ?_) (fun h => absurd h2 h)
  exact x_throwW (text := "a number is out of range") (names := ["java/lang/RuntimeException", "java/lang/Exception"]) hx hb hlx hown hE (by decide) (by decide) (e639 hE) (e20 hE) (by decide +kernel) (th_215 hE) tg_215_211 hz (by rw [hml]; exact hl.1) dX9_requireRange_10 dX9_requireRange_13 dX9_requireRange_14 dX9_requireRange_17 dX9_requireRange_20 hex (Nat.le_of_ble_eq_true rfl) (Nat.le_of_ble_eq_true rfl) (Nat.le_of_ble_eq_true rfl) (Nat.le_of_ble_eq_true rfl) hlocks hP hD hS hAe hsz (Nat.le_of_ble_eq_true rfl) (Nat.le_of_ble_eq_true rfl) [] (by decide) rfl

set_option maxHeartbeats 4000000 in
set_option maxRecDepth 100000 in
theorem c110_X9_addNote (l : Launch) (g : gG) (hlx : l.stackTraces = false) (q1 : Nat) (x2 x3 x4 x5 : Int32) (h6 : (0 : Int32) ≤ x2) (h7 : x2 < 8) (h8 : (0 : Int32) ≤ x3) (h9 : x3 ≤ 99) (h10 : (1 : Int32) ≤ x4) (h11 : x4 ≤ 16) (h12 : x5 < 1) (sz : Nat) : vx_Met l yX9_addNote [Cond.code yX9_addNote cX9_addNote 5 (some .int)] ({ frames := 7, cells := 1, slots := 6, locals := 122 } : Room) (va_Pc [.ref q1, .int x2, .int x3, .int x4, .int x5] (PZ g sz [])) NI (XW g [] sz "java/lang/IllegalArgumentException" []) 1 6 (va_A [] sz) := by
  refine ofX (by decide) (Nat.le_of_ble_eq_true rfl) rfl ?_
  intro p e s m args below meth c A ls hAe hsz hx hb hml hr hlocks hin hown hE hP hD hA hS hl hex hz
  have hown : s.vm.findClass RX9 = some m.cls := hown
  refine lv_iload_n hx hb dX9_addNote_0 rfl (lv_at hl 1 rfl) ?_
  refine g0_v (rS (rest := []) hx hb hml hown hE hP hD (c89_X9_requirePattern l g x2 h6 h7 s.heap.size) (kS_X9_requirePattern hE (e617 hE) rfl rfl ⟨(Nat.le_of_ble_eq_true rfl), (Nat.le_of_ble_eq_true rfl)⟩) [] rfl (by decide) rfl hl.1 rfl (lv_room (Nat.le_of_ble_eq_true rfl)) dX9_addNote_1 ⟨(Nat.le_of_ble_eq_true rfl), (Nat.le_of_ble_eq_true rfl)⟩) hP hD hS hA (fun u9 H locs hP hS => ?_)
  refine lv_iload_n hx hb dX9_addNote_4 rfl (lv_at hl 2 rfl) ?_
  refine lv_iconst (v := 0) hx hb dX9_addNote_5 (by decide) ?_
  refine lv_bipush (v := 99) hx hb dX9_addNote_6 (by decide) ?_
  refine g0_v (rS (rest := []) hx hb hml hown hE hP hD (c99_X9_requireRange l g x3 h8 h9 H.size) (kS_X9_requireRange hE (e636 hE) rfl rfl ⟨(Nat.le_of_ble_eq_true rfl), (Nat.le_of_ble_eq_true rfl)⟩) [] rfl (by decide) rfl hl.1 rfl (lv_room (Nat.le_of_ble_eq_true rfl)) dX9_addNote_8 ⟨(Nat.le_of_ble_eq_true rfl), (Nat.le_of_ble_eq_true rfl)⟩) hP hD hS hA (fun u9 H locs hP hS => ?_)
  refine lv_iload_n hx hb dX9_addNote_11 rfl (lv_at hl 3 rfl) ?_
  refine lv_iconst (v := 1) hx hb dX9_addNote_12 (by decide) ?_
  refine lv_bipush (v := 16) hx hb dX9_addNote_13 (by decide) ?_
  refine g0_v (rS (rest := []) hx hb hml hown hE hP hD (c108_X9_requireRange l g x4 h10 h11 H.size) (kS_X9_requireRange hE (e636 hE) rfl rfl ⟨(Nat.le_of_ble_eq_true rfl), (Nat.le_of_ble_eq_true rfl)⟩) [] rfl (by decide) rfl hl.1 rfl (lv_room (Nat.le_of_ble_eq_true rfl)) dX9_addNote_15 ⟨(Nat.le_of_ble_eq_true rfl), (Nat.le_of_ble_eq_true rfl)⟩) hP hD hS hA (fun u9 H locs hP hS => ?_)
  refine lv_iload hx hb dX9_addNote_18 (lv_at hl 4 rfl) ?_
  refine lv_iconst (v := 1) hx hb dX9_addNote_20 (by decide) ?_
  refine lv_bipush (v := 9) hx hb dX9_addNote_21 (by decide) ?_
  refine gx_v (wr := []) (rSx (rest := []) hx hb hml hown hE hP hD hS hA hz (c109_X9_requireRange l g hlx x5 h12 H.size) (kS_X9_requireRange hE (e636 hE) rfl rfl ⟨(Nat.le_of_ble_eq_true rfl), (Nat.le_of_ble_eq_true rfl)⟩) [] rfl (by decide) rfl hl.1 rfl (lv_room (Nat.le_of_ble_eq_true rfl)) dX9_addNote_23 ⟨(Nat.le_of_ble_eq_true rfl), (Nat.le_of_ble_eq_true rfl)⟩) hP hD hS hA [] [] rfl rfl (by decide) (by decide) (fun ce9 q9 H locs hP hD hS hq1 hq2 hq3 => ?_)
  exact x_out hex hlocks hq1 hq2 hq3 hP hD hS hAe hsz (Nat.le_of_ble_eq_true rfl) (Nat.le_of_ble_eq_true rfl) [] (by decide) rfl

set_option maxHeartbeats 4000000 in
set_option maxRecDepth 100000 in
theorem c111_L_addNote (l : Launch) (g : gG) (hlx : l.stackTraces = false) (q1 q6 : Nat) (x2 x3 x4 x5 : Int32) (w14 w15 w16 w17 w18 w19 w20 w21 w22 w23 w24 : Value) (h7 : (0 : Int32) ≤ x2) (h8 : x2 < 8) (h9 : (0 : Int32) ≤ x3) (h10 : x3 ≤ 99) (h11 : (1 : Int32) ≤ x4) (h12 : x4 ≤ 16) (h13 : x5 < 1) (sz : Nat) : Met l yL_addNote [Cond.codeWith yL_addNote cL_addNote 7 (some .int) [(0, 14, 17, 13), (0, 14, 21, 15), (0, 14, 25, 17)]] ({ frames := 8, cells := 1, slots := 6, locals := 146 } : Room) (va_Pc [.ref q1, .int x2, .int x3, .int x4, .int x5, .ref q6] (PZ g sz [(q1, .inr (11, [w14, w15, w16, w17, w18, w19, w20, w21, w22, w23, w24]))])) (QI g [(q1, .inr (11, [w14, w15, w16, w17, w18, w19, w20, w21, w22, w23, w24]))] sz 2 (fun _ => [])) 1 6 (va_A [(q1, .inr (11, [w14, w15, w16, w17, w18, w19, w20, w21, w22, w23, w24]))] sz) := by
  refine ofH (by decide) (Nat.le_of_ble_eq_true rfl) rfl ?_
  intro p e s m args below meth c A ls hAe hsz hx hb hml hr hlocks hin hown hE hP hD hA hS hl htb hz
  have hown : s.vm.findClass RL = some m.cls := hown
  refine lv_aload hx hb dL_addNote_0 (lv_at hl 5 rfl) ?_
  refine lv_iconst (v := 0) hx hb dL_addNote_2 (by decide) ?_
  refine lv_aload_n hx hb dL_addNote_3 rfl (lv_at hl 0 rfl) ?_
  refine lv_iload_n hx hb dL_addNote_4 rfl (lv_at hl 1 rfl) ?_
  refine lv_iload_n hx hb dL_addNote_5 rfl (lv_at hl 2 rfl) ?_
  refine lv_iload_n hx hb dL_addNote_6 rfl (lv_at hl 3 rfl) ?_
  refine lv_iload hx hb dL_addNote_7 (lv_at hl 4 rfl) ?_
  refine gx_i (wr := [(q1, .inr (11, [w14, w15, w16, w17, w18, w19, w20, w21, w22, w23, w24]))]) (rVx (rest := [.int 0, .ref q6]) hx hb hml hown hE hP hD hS hA hz 0 rfl rfl (c110_X9_addNote l g hlx q1 x2 x3 x4 x5 h7 h8 h9 h10 h11 h12 h13 s.heap.size) (kV_X9_addNote hE (e613 hE) rfl rfl ⟨(Nat.le_of_ble_eq_true rfl), (Nat.le_of_ble_eq_true rfl)⟩) [] rfl (by decide) rfl hl.1 rfl (lv_room (Nat.le_of_ble_eq_true rfl)) dL_addNote_9 ⟨(Nat.le_of_ble_eq_true rfl), (Nat.le_of_ble_eq_true rfl)⟩) hP hD hS hA [] [0] rfl rfl (by decide) (by decide) (fun ce9 q9 H locs hP hD hS hq1 hq2 hq3 => ?_)
  have hP : va_P g.1 vwCl [(q1, .inr (11, [w14, w15, w16, w17, w18, w19, w20, w21, w22, w23, w24]))] H := hP
  have hD : va_D A [(q1, .inr (11, [w14, w15, w16, w17, w18, w19, w20, w21, w22, w23, w24]))] := hD
  refine x_catch (name := "java/lang/IllegalArgumentException") (hh := [(0, 14, 17, 13), (0, 14, 21, 15), (0, 14, 25, 17)]) (tgt := 21) hown htb [⟨0, 14, 17, 13⟩] ⟨0, 14, 21, 15⟩ [⟨0, 14, 25, 17⟩] rfl (fun z hz => by
    rcases List.mem_cons.mp hz with rfl | hz
    · exact Or.inr ⟨by decide, "java/lang/IndexOutOfBoundsException", e532 hE, hE.2.2.2.2.2 ("java/lang/IllegalArgumentException", "java/lang/IndexOutOfBoundsException") (by decide +kernel)⟩
    exact nomatch hz) rfl (by decide) (e611 hE) (e641 hE) hq1 hq2 hq3 rfl ?_
  refine lv_astore (lv' := [(6, .ref q9), (0, .ref q1), (1, .int x2), (2, .int x3), (3, .int x4), (4, .int x5), (5, .ref q6)]) hx hb dL_addNote_21 hl (by decide) rfl (fun ls hl => ?_)
  refine lv_iconst (v := 2) hx hb dL_addNote_23 (by decide) ?_
  exact x_zret hx hb hr rfl rfl hlocks hP hD hS hAe hsz (Nat.le_of_ble_eq_true rfl) (Nat.le_of_ble_eq_true rfl) (fun _ => 0) [] (by decide) rfl dL_addNote_24

set_option maxHeartbeats 4000000 in
set_option maxRecDepth 100000 in
theorem c112_X10_in (l : Launch) (g : gG) (x1 : Int32) (h2 : (1 : Int32) ≤ x1) (h3 : x1 ≤ 16) (sz : Nat) : Met l yX10_in [Cond.code yX10_in cX10_in 3 (some .boolean)] ({ frames := 0, cells := 0, slots := 0, locals := 0 } : Room) (va_Pc [.int x1, .int 1, .int 16] (PX g sz [])) (QI g [] sz 1 (fun _ => [])) 0 0 (va_A [] sz) := by
  refine ofN (by decide) (Nat.le_of_ble_eq_true rfl) rfl ?_
  intro p e s m args below meth c A ls hAe hsz hx hb hml hr hlocks hin hown hE hP hD hA hS hl
  have hown : s.vm.findClass RX10 = some m.cls := hown
  refine lv_iload_n hx hb dX10_in_0 rfl (lv_at hl 0 rfl) ?_
  refine lv_iload_n hx hb dX10_in_1 rfl (lv_at hl 1 rfl) ?_
  refine lv_icmp_lt (tgt := 14) hx hb dX10_in_2 (by decide) (fun h => absurd h (i_nlt h2)) (fun _ => ?_)
  refine lv_iload_n hx hb dX10_in_5 rfl (lv_at hl 0 rfl) ?_
  refine lv_iload_n hx hb dX10_in_6 rfl (lv_at hl 2 rfl) ?_
  refine lv_icmp_gt (tgt := 14) hx hb dX10_in_7 (by decide) (fun h => absurd h (i_nlt h3)) (fun _ => ?_)
  refine lv_iconst (v := 1) hx hb dX10_in_10 (by decide) ?_
  refine lv_goto (tgt := 15) hx hb dX10_in_11 (by decide) ?_
  exact x_zret hx hb hr rfl rfl hlocks hP hD hS hAe hsz (Nat.le_of_ble_eq_true rfl) (Nat.le_of_ble_eq_true rfl) (fun _ => 0) [] (by decide) rfl dX10_in_15

set_option maxHeartbeats 4000000 in
set_option maxRecDepth 100000 in
theorem c113_X10_in (l : Launch) (g : gG) (x1 : Int32) (h2 : x1 < 1) (sz : Nat) : Met l yX10_in [Cond.code yX10_in cX10_in 3 (some .boolean)] ({ frames := 0, cells := 0, slots := 0, locals := 0 } : Room) (va_Pc [.int x1, .int 1, .int 9] (PX g sz [])) (QI g [] sz 0 (fun _ => [])) 0 0 (va_A [] sz) := by
  refine ofN (by decide) (Nat.le_of_ble_eq_true rfl) rfl ?_
  intro p e s m args below meth c A ls hAe hsz hx hb hml hr hlocks hin hown hE hP hD hA hS hl
  have hown : s.vm.findClass RX10 = some m.cls := hown
  refine lv_iload_n hx hb dX10_in_0 rfl (lv_at hl 0 rfl) ?_
  refine lv_iload_n hx hb dX10_in_1 rfl (lv_at hl 1 rfl) ?_
  refine lv_icmp_lt (tgt := 14) hx hb dX10_in_2 (by decide) (fun _ => ?_) (fun h => absurd h2 h)
  refine lv_iconst (v := 0) hx hb dX10_in_14 (by decide) ?_
  exact x_zret hx hb hr rfl rfl hlocks hP hD hS hAe hsz (Nat.le_of_ble_eq_true rfl) (Nat.le_of_ble_eq_true rfl) (fun _ => 0) [] (by decide) rfl dX10_in_15

set_option maxHeartbeats 4000000 in
set_option maxRecDepth 100000 in
theorem c114_X10_isRanged (l : Launch) (g : gG) (x1 x2 x3 x4 : Int32) (h5 : (0 : Int32) ≤ x2) (h6 : x2 ≤ 99) (h7 : (1 : Int32) ≤ x3) (h8 : x3 ≤ 16) (h9 : x4 < 1) (sz : Nat) : Met l yX10_isRanged [Cond.code yX10_isRanged cX10_isRanged 5 (some .boolean)] ({ frames := 1, cells := 0, slots := 0, locals := 22 } : Room) (va_Pc [.int x1, .int 0, .int x2, .int x3, .int x4] (PX g sz [])) (QI g [] sz 0 (fun _ => [])) 0 0 (va_A [] sz) := by
  refine ofN (by decide) (Nat.le_of_ble_eq_true rfl) rfl ?_
  intro p e s m args below meth c A ls hAe hsz hx hb hml hr hlocks hin hown hE hP hD hA hS hl
  have hown : s.vm.findClass RX10 = some m.cls := hown
  refine lv_iload_n hx hb dX10_isRanged_0 rfl (lv_at hl 1 rfl) ?_
  refine lv_if_ne (tgt := 43) hx hb dX10_isRanged_1 (by decide) (fun h => absurd h (by decide)) (fun _ => ?_)
  refine lv_iload_n hx hb dX10_isRanged_4 rfl (lv_at hl 2 rfl) ?_
  refine lv_iconst (v := 0) hx hb dX10_isRanged_5 (by decide) ?_
  refine lv_bipush (v := 99) hx hb dX10_isRanged_6 (by decide) ?_
  refine g0_i (rS (rest := []) hx hb hml hown hE hP hD (c103_X10_in l g x2 h5 h6 s.heap.size) (kS_X10_in hE (e1431 hE) rfl rfl ⟨(Nat.le_of_ble_eq_true rfl), (Nat.le_of_ble_eq_true rfl)⟩) [] rfl (by decide) rfl hl.1 rfl (lv_room (Nat.le_of_ble_eq_true rfl)) dX10_isRanged_8 ⟨(Nat.le_of_ble_eq_true rfl), (Nat.le_of_ble_eq_true rfl)⟩) hP hD hS hA (fun u9 H locs hP hS => ?_)
  refine lv_if_eq (tgt := 39) hx hb dX10_isRanged_11 (by decide) (fun h => absurd h (by decide)) (fun _ => ?_)
  refine lv_iload_n hx hb dX10_isRanged_14 rfl (lv_at hl 3 rfl) ?_
  refine lv_iconst (v := 1) hx hb dX10_isRanged_15 (by decide) ?_
  refine lv_bipush (v := 16) hx hb dX10_isRanged_16 (by decide) ?_
  refine g0_i (rS (rest := []) hx hb hml hown hE hP hD (c112_X10_in l g x3 h7 h8 H.size) (kS_X10_in hE (e1431 hE) rfl rfl ⟨(Nat.le_of_ble_eq_true rfl), (Nat.le_of_ble_eq_true rfl)⟩) [] rfl (by decide) rfl hl.1 rfl (lv_room (Nat.le_of_ble_eq_true rfl)) dX10_isRanged_18 ⟨(Nat.le_of_ble_eq_true rfl), (Nat.le_of_ble_eq_true rfl)⟩) hP hD hS hA (fun u9 H locs hP hS => ?_)
  refine lv_if_eq (tgt := 39) hx hb dX10_isRanged_21 (by decide) (fun h => absurd h (by decide)) (fun _ => ?_)
  refine lv_iload hx hb dX10_isRanged_24 (lv_at hl 4 rfl) ?_
  refine lv_iconst (v := 1) hx hb dX10_isRanged_26 (by decide) ?_
  refine lv_bipush (v := 9) hx hb dX10_isRanged_27 (by decide) ?_
  refine g0_i (rS (rest := []) hx hb hml hown hE hP hD (c113_X10_in l g x4 h9 H.size) (kS_X10_in hE (e1431 hE) rfl rfl ⟨(Nat.le_of_ble_eq_true rfl), (Nat.le_of_ble_eq_true rfl)⟩) [] rfl (by decide) rfl hl.1 rfl (lv_room (Nat.le_of_ble_eq_true rfl)) dX10_isRanged_29 ⟨(Nat.le_of_ble_eq_true rfl), (Nat.le_of_ble_eq_true rfl)⟩) hP hD hS hA (fun u9 H locs hP hS => ?_)
  refine lv_if_eq (tgt := 39) hx hb dX10_isRanged_32 (by decide) (fun _ => ?_) (fun h => absurd (by decide) h)
  refine lv_iconst (v := 0) hx hb dX10_isRanged_39 (by decide) ?_
  refine lv_goto (tgt := 84) hx hb dX10_isRanged_40 (by decide) ?_
  exact x_zret hx hb hr rfl rfl hlocks hP hD hS hAe hsz (Nat.le_of_ble_eq_true rfl) (Nat.le_of_ble_eq_true rfl) (fun _ => 0) [] (by decide) rfl dX10_isRanged_84

set_option maxHeartbeats 4000000 in
set_option maxRecDepth 100000 in
theorem c115_X10_added (l : Launch) (g : gG) (q1 : Nat) (x2 x3 x4 x5 : Int32) (w13 w14 w15 w16 w17 w18 w19 w20 w21 w22 w23 w24 w25 w26 w27 w28 w29 w30 w31 w32 w33 w34 w35 w36 w37 w38 w39 w40 w41 w42 w43 w44 w45 w46 w47 w48 w49 : Value) (h6 : (0 : Int32) ≤ x2) (h7 : x2 ≤ 7) (h8 : (0 : Int32) ≤ x3) (h9 : x3 ≤ 99) (h10 : (1 : Int32) ≤ x4) (h11 : x4 ≤ 16) (h12 : x5 < 1) (sz : Nat) : Met l yX10_added [Cond.code yX10_added cX10_added 6 (some .int)] ({ frames := 2, cells := 0, slots := 0, locals := 46 } : Room) (va_Pc [.ref q1, .int x2, .int 0, .int x3, .int x4, .int x5] (PX g sz [(q1, .inr (12, [w13, w14, w15, w16, w17, w18, w19, w20, w21, w22, w23, w24, w25, w26, w27, w28, w29, w30, w31, w32, w33, w34, w35, w36, w37, w38, w39, w40, w41, w42, w43, w44, w45, w46, w47, w48, w49]))])) (QI g [(q1, .inr (12, [w13, w14, w15, w16, w17, w18, w19, w20, w21, w22, w23, w24, w25, w26, w27, w28, w29, w30, w31, w32, w33, w34, w35, w36, w37, w38, w39, w40, w41, w42, w43, w44, w45, w46, w47, w48, w49]))] sz 0 (fun _ => [(q1, .inr (12, [w13, w14, w15, w16, w17, w18, .int 2, w20, w21, w22, w23, w24, w25, w26, w27, w28, w29, w30, w31, w32, w33, w34, w35, w36, w37, w38, w39, w40, w41, w42, w43, w44, w45, w46, w47, w48, w49]))])) 0 0 (va_A [(q1, .inr (12, [w13, w14, w15, w16, w17, w18, w19, w20, w21, w22, w23, w24, w25, w26, w27, w28, w29, w30, w31, w32, w33, w34, w35, w36, w37, w38, w39, w40, w41, w42, w43, w44, w45, w46, w47, w48, w49]))] sz) := by
  refine ofN (by decide) (Nat.le_of_ble_eq_true rfl) rfl ?_
  intro p e s m args below meth c A ls hAe hsz hx hb hml hr hlocks hin hown hE hP hD hA hS hl
  have hown : s.vm.findClass RX10 = some m.cls := hown
  refine lv_aload_n hx hb dX10_added_0 rfl (lv_at hl 0 rfl) ?_
  refine lv_iload_n hx hb dX10_added_1 rfl (lv_at hl 1 rfl) ?_
  refine g0_i (rS (rest := [.ref q1]) hx hb hml hown hE hP hD (c94_X10_isPattern l g x2 h6 h7 s.heap.size) (kS_X10_isPattern hE (e1428 hE) rfl rfl ⟨(Nat.le_of_ble_eq_true rfl), (Nat.le_of_ble_eq_true rfl)⟩) [] rfl (by decide) rfl hl.1 rfl (lv_room (Nat.le_of_ble_eq_true rfl)) dX10_added_2 ⟨(Nat.le_of_ble_eq_true rfl), (Nat.le_of_ble_eq_true rfl)⟩) hP hD hS hA (fun u9 H locs hP hS => ?_)
  refine lv_if_ne (tgt := 12) hx hb dX10_added_5 (by decide) (fun _ => ?_) (fun h => absurd h (by decide))
  refine lv_iload_n hx hb dX10_added_12 rfl (lv_at hl 1 rfl) ?_
  refine lv_iload_n hx hb dX10_added_13 rfl (lv_at hl 2 rfl) ?_
  refine lv_iload_n hx hb dX10_added_14 rfl (lv_at hl 3 rfl) ?_
  refine lv_iload hx hb dX10_added_15 (lv_at hl 4 rfl) ?_
  refine lv_iload hx hb dX10_added_17 (lv_at hl 5 rfl) ?_
  refine g0_i (rS (rest := [.ref q1]) hx hb hml hown hE hP hD (c114_X10_isRanged l g x2 x3 x4 x5 h8 h9 h10 h11 h12 H.size) (kS_X10_isRanged hE (e1434 hE) rfl rfl ⟨(Nat.le_of_ble_eq_true rfl), (Nat.le_of_ble_eq_true rfl)⟩) [] rfl (by decide) rfl hl.1 rfl (lv_room (Nat.le_of_ble_eq_true rfl)) dX10_added_19 ⟨(Nat.le_of_ble_eq_true rfl), (Nat.le_of_ble_eq_true rfl)⟩) hP hD hS hA (fun u9 H locs hP hS => ?_)
  refine lv_if_ne (tgt := 29) hx hb dX10_added_22 (by decide) (fun h => absurd h (by decide)) (fun _ => ?_)
  refine lv_iconst (v := 2) hx hb dX10_added_25 (by decide) ?_
  refine lv_goto (tgt := 30) hx hb dX10_added_26 (by decide) ?_
  refine pf_RX10_86 (ws' := [(q1, .inr (12, [w13, w14, w15, w16, w17, w18, .int 2, w20, w21, w22, w23, w24, w25, w26, w27, w28, w29, w30, w31, w32, w33, w34, w35, w36, w37, w38, w39, w40, w41, w42, w43, w44, w45, w46, w47, w48, w49]))]) hx hb hown hE hP hD hS 0 rfl rfl rfl (Nat.le_of_ble_eq_true rfl) dX10_added_30 rfl (fun H locs hP hD hS => ?_)
  refine lv_aload_n hx hb dX10_added_33 rfl (lv_at hl 0 rfl) ?_
  refine gf_RX10_86 hx hb hown hE hP 0 rfl rfl dX10_added_34 ?_
  refine lv_if_le (tgt := 42) hx hb dX10_added_37 (by decide) (fun h => absurd h (by decide)) (fun _ => ?_)
  refine lv_iconst (v := 0) hx hb dX10_added_40 (by decide) ?_
  exact x_zret hx hb hr rfl rfl hlocks hP hD hS hAe hsz (Nat.le_of_ble_eq_true rfl) (Nat.le_of_ble_eq_true rfl) (fun _ => 0) [0] (by decide) rfl dX10_added_41

set_option maxHeartbeats 4000000 in
set_option maxRecDepth 100000 in
theorem c116_X10_addNote (l : Launch) (g : gG) (q1 : Nat) (x2 x3 x4 x5 : Int32) (w6 w7 w8 w9 w10 w11 w12 w13 w14 w15 w16 w17 w18 w19 w20 w21 w22 w23 w24 w25 w26 w27 w28 w29 w30 w31 w32 w33 w34 w35 w36 w37 w38 w39 w40 w41 w42 : Value) (h43 : (0 : Int32) ≤ x2) (h44 : x2 ≤ 7) (h45 : (0 : Int32) ≤ x3) (h46 : x3 ≤ 99) (h47 : (1 : Int32) ≤ x4) (h48 : x4 ≤ 16) (h49 : x5 < 1) (sz : Nat) : Met l yX10_addNote [Cond.code yX10_addNote cX10_addNote 5 (some .int)] ({ frames := 3, cells := 0, slots := 0, locals := 71 } : Room) (va_Pc [.ref q1, .int x2, .int x3, .int x4, .int x5] (PX g sz [(q1, .inr (12, [w6, w7, w8, w9, w10, w11, w12, w13, w14, w15, w16, w17, w18, w19, w20, w21, w22, w23, w24, w25, w26, w27, w28, w29, w30, w31, w32, w33, w34, w35, w36, w37, w38, w39, w40, w41, w42]))])) (QI g [(q1, .inr (12, [w6, w7, w8, w9, w10, w11, w12, w13, w14, w15, w16, w17, w18, w19, w20, w21, w22, w23, w24, w25, w26, w27, w28, w29, w30, w31, w32, w33, w34, w35, w36, w37, w38, w39, w40, w41, w42]))] sz 0 (fun _ => [(q1, .inr (12, [w6, w7, w8, w9, w10, w11, .int 2, w13, w14, w15, w16, w17, w18, w19, w20, w21, w22, w23, w24, w25, w26, w27, w28, w29, w30, w31, w32, w33, w34, w35, w36, w37, w38, w39, w40, w41, w42]))])) 0 0 (va_A [(q1, .inr (12, [w6, w7, w8, w9, w10, w11, w12, w13, w14, w15, w16, w17, w18, w19, w20, w21, w22, w23, w24, w25, w26, w27, w28, w29, w30, w31, w32, w33, w34, w35, w36, w37, w38, w39, w40, w41, w42]))] sz) := by
  refine ofN (by decide) (Nat.le_of_ble_eq_true rfl) rfl ?_
  intro p e s m args below meth c A ls hAe hsz hx hb hml hr hlocks hin hown hE hP hD hA hS hl
  have hown : s.vm.findClass RX10 = some m.cls := hown
  refine lv_aload_n hx hb dX10_addNote_0 rfl (lv_at hl 0 rfl) ?_
  refine lv_iload_n hx hb dX10_addNote_1 rfl (lv_at hl 1 rfl) ?_
  refine lv_iconst (v := 0) hx hb dX10_addNote_2 (by decide) ?_
  refine lv_iload_n hx hb dX10_addNote_3 rfl (lv_at hl 2 rfl) ?_
  refine lv_iload_n hx hb dX10_addNote_4 rfl (lv_at hl 3 rfl) ?_
  refine lv_iload hx hb dX10_addNote_5 (lv_at hl 4 rfl) ?_
  refine g_i (wr := []) (rV (rest := []) hx hb hml hown hE hP hD 0 rfl rfl (c115_X10_added l g q1 x2 x3 x4 x5 w6 w7 w8 w9 w10 w11 w12 w13 w14 w15 w16 w17 w18 w19 w20 w21 w22 w23 w24 w25 w26 w27 w28 w29 w30 w31 w32 w33 w34 w35 w36 w37 w38 w39 w40 w41 w42 h43 h44 h45 h46 h47 h48 h49 s.heap.size) (kV_X10_added hE (e1424 hE) rfl rfl ⟨(Nat.le_of_ble_eq_true rfl), (Nat.le_of_ble_eq_true rfl)⟩) [0] rfl (by decide) rfl hl.1 rfl (lv_room (Nat.le_of_ble_eq_true rfl)) dX10_addNote_7 ⟨(Nat.le_of_ble_eq_true rfl), (Nat.le_of_ble_eq_true rfl)⟩) hP hD hS hA [0] [] rfl rfl (by decide) (by decide) (fun u1 H locs hP hD hS => ?_)
  have hP : va_P g.1 vwCl [(q1, .inr (12, [w6, w7, w8, w9, w10, w11, .int 2, w13, w14, w15, w16, w17, w18, w19, w20, w21, w22, w23, w24, w25, w26, w27, w28, w29, w30, w31, w32, w33, w34, w35, w36, w37, w38, w39, w40, w41, w42]))] H := hP
  have hD : va_D A [(q1, .inr (12, [w6, w7, w8, w9, w10, w11, .int 2, w13, w14, w15, w16, w17, w18, w19, w20, w21, w22, w23, w24, w25, w26, w27, w28, w29, w30, w31, w32, w33, w34, w35, w36, w37, w38, w39, w40, w41, w42]))] := hD
  exact x_zret hx hb hr rfl rfl hlocks hP hD hS hAe hsz (Nat.le_of_ble_eq_true rfl) (Nat.le_of_ble_eq_true rfl) (fun _ => 0) [0] (by decide) rfl dX10_addNote_10

set_option maxHeartbeats 4000000 in
set_option maxRecDepth 100000 in
theorem c117_X9_requireRange (l : Launch) (g : gG) (x1 : Int32) (h2 : (1 : Int32) ≤ x1) (h3 : x1 ≤ 9) (sz : Nat) : Met l yX9_requireRange [Cond.code yX9_requireRange cX9_requireRange 3 none] ({ frames := 0, cells := 0, slots := 0, locals := 0 } : Room) (va_Pc [.int x1, .int 1, .int 9] (PX g sz [])) (QV g [] sz (fun _ => [])) 0 0 (va_A [] sz) := by
  refine ofN (by decide) (Nat.le_of_ble_eq_true rfl) rfl ?_
  intro p e s m args below meth c A ls hAe hsz hx hb hml hr hlocks hin hown hE hP hD hA hS hl
  have hown : s.vm.findClass RX9 = some m.cls := hown
  refine lv_iload_n hx hb dX9_requireRange_0 rfl (lv_at hl 0 rfl) ?_
  refine lv_iload_n hx hb dX9_requireRange_1 rfl (lv_at hl 1 rfl) ?_
  refine lv_icmp_lt (tgt := 10) hx hb dX9_requireRange_2 (by decide) (fun h => absurd h (i_nlt h2)) (fun _ => ?_)
  refine lv_iload_n hx hb dX9_requireRange_5 rfl (lv_at hl 0 rfl) ?_
  refine lv_iload_n hx hb dX9_requireRange_6 rfl (lv_at hl 2 rfl) ?_
  refine lv_icmp_le (tgt := 21) hx hb dX9_requireRange_7 (by decide) (fun _ => ?_) (fun h => absurd h3 h)
  exact x_vret hx hb hr hlocks hP hD hS hAe hsz (Nat.le_of_ble_eq_true rfl) (Nat.le_of_ble_eq_true rfl) (fun _ => 0) [] (by decide) rfl dX9_requireRange_21

set_option maxHeartbeats 4000000 in
set_option maxRecDepth 100000 in
theorem c118_J9_floorMod_7cf53 (l : Launch) (g : gG) (sz : Nat) : Met l yJ9_floorMod_7cf53 [Cond.code yJ9_floorMod_7cf53 cJ9_floorMod_7cf53 3 (some .int)] ({ frames := 0, cells := 0, slots := 0, locals := 0 } : Room) (va_Pc [.int 1, .int 10] (PX g sz [])) (QI g [] sz 1 (fun _ => [])) 0 0 (va_A [] sz) := by
  refine ofM (by decide +kernel) (Nat.le_of_ble_eq_true rfl) rfl ?_
  intro p e s m args below meth c A ls hAe hsz hx hb hml hr hlocks hin hown hE hP hD hA hS hl
  have hown : s.vm.findClass RJ9 = some m.cls := hown
  refine lv_iload_n hx hb dJ9_floorMod_7cf53_0 rfl (lv_at hl 0 rfl) ?_
  refine lv_iload_n hx hb dJ9_floorMod_7cf53_1 rfl (lv_at hl 1 rfl) ?_
  refine lv_irem hx hb dJ9_floorMod_7cf53_2 (by decide) ?_
  refine x_top (v := 1) (by decide) ?_
  refine lv_istore_n (lv' := [(2, .int 1), (0, .int 1), (1, .int 10)]) hx hb dJ9_floorMod_7cf53_3 rfl hl (by decide) rfl (fun ls hl => ?_)
  refine lv_iload_n hx hb dJ9_floorMod_7cf53_4 rfl (lv_at hl 1 rfl) ?_
  refine lv_iload_n hx hb dJ9_floorMod_7cf53_5 rfl (lv_at hl 2 rfl) ?_
  refine x_ixor (v := 11) hx hb dJ9_floorMod_7cf53_6 (by decide) ?_
  refine lv_if_ge (tgt := 18) hx hb dJ9_floorMod_7cf53_7 (by decide) (fun _ => ?_) (fun h => absurd (by decide) h)
  refine lv_iload_n hx hb dJ9_floorMod_7cf53_18 rfl (lv_at hl 0 rfl) ?_
  exact x_zret hx hb hr rfl rfl hlocks hP hD hS hAe hsz (Nat.le_of_ble_eq_true rfl) (Nat.le_of_ble_eq_true rfl) (fun _ => 0) [] (by decide) rfl dJ9_floorMod_7cf53_19

set_option maxHeartbeats 4000000 in
set_option maxRecDepth 100000 in
theorem c119_X9_copyRow (l : Launch) (g : gG) (q1 q2 : Nat) (f3 : Nat → Int32) (sz : Nat) : Met l yX9_copyRow [Cond.code yX9_copyRow cX9_copyRow 2 none] ({ frames := 1, cells := 0, slots := 0, locals := 64 } : Room) (va_Pc [.ref q1, .ref q2] (PX g sz [(q2, .inl (g.2 0, 384, .inl f3)), (q1, .inl (g.2 0, 384, .inl f3))])) (QV g [(q2, .inl (g.2 0, 384, .inl f3)), (q1, .inl (g.2 0, 384, .inl f3))] sz (fun _ => [(q2, .inl (g.2 0, 384, .inl f3)), (q1, .inl (g.2 0, 384, .inl f3))])) 0 0 (va_A [(q2, .inl (g.2 0, 384, .inl f3)), (q1, .inl (g.2 0, 384, .inl f3))] sz) := by
  refine ofN (by decide) (Nat.le_of_ble_eq_true rfl) rfl ?_
  intro p e s m args below meth c A ls hAe hsz hx hb hml hr hlocks hin hown hE hP hD hA hS hl
  have hown : s.vm.findClass RX9 = some m.cls := hown
  refine lv_aload_n hx hb dX9_copyRow_0 rfl (lv_at hl 0 rfl) ?_
  refine lv_iconst (v := 0) hx hb dX9_copyRow_1 (by decide) ?_
  refine lv_aload_n hx hb dX9_copyRow_2 rfl (lv_at hl 1 rfl) ?_
  refine lv_iconst (v := 0) hx hb dX9_copyRow_3 (by decide) ?_
  refine lv_aload_n hx hb dX9_copyRow_4 rfl (lv_at hl 0 rfl) ?_
  refine x_aleni (v := 384) hx hb hE hP 1 rfl rfl dX9_copyRow_5 ?_
  refine lv_aload_n hx hb dX9_copyRow_6 rfl (lv_at hl 1 rfl) ?_
  refine x_aleni (v := 384) hx hb hE hP 0 rfl rfl dX9_copyRow_7 ?_
  refine x_mmin (v := 384) hx hb (by rw [hml]; exact hl.1.symm) hown (e521 hE) (e362 hE) (e9 hE) (e363 hE) (Nat.le_of_ble_eq_true rfl) (Nat.le_of_ble_eq_true rfl) (Nat.le_of_ble_eq_true rfl) (Nat.le_of_ble_eq_true rfl) (by decide) dX9_copyRow_8 ?_
  refine x_copy (ws' := [(q2, .inl (g.2 0, 384, .inl f3)), (q1, .inl (g.2 0, 384, .inl f3))]) (ks := 0) (kd := 0) (kn := 384) hx hb (by rw [hml]; exact hl.1.symm) hown hE (e522 hE) (e379 hE) (e378 hE) (e21 hE) hP hD hS 1 0 rfl rfl (by decide) (by decide) (by decide) (by decide) (by decide) (by decide) (Nat.le_of_ble_eq_true rfl) (Nat.le_of_ble_eq_true rfl) (Nat.le_of_ble_eq_true rfl) (Nat.le_of_ble_eq_true rfl) dX9_copyRow_11 (by rw [va_cpy_self]; rfl) (fun H locs hP hD hS => ?_)
  exact x_vret hx hb hr hlocks hP hD hS hAe hsz (Nat.le_of_ble_eq_true rfl) (Nat.le_of_ble_eq_true rfl) (fun _ => 0) [0, 1] (by decide) rfl dX9_copyRow_14

set_option maxHeartbeats 4000000 in
set_option maxRecDepth 100000 in
theorem c120_X9_copyRow (l : Launch) (g : gG) (q1 q2 : Nat) (f3 : Nat → Int32) (sz : Nat) : Met l yX9_copyRow [Cond.code yX9_copyRow cX9_copyRow 2 none] ({ frames := 1, cells := 0, slots := 0, locals := 64 } : Room) (va_Pc [.ref q1, .ref q2] (PX g sz [(q2, .inl (g.2 0, 40, .inl f3)), (q1, .inl (g.2 0, 40, .inl f3))])) (QV g [(q2, .inl (g.2 0, 40, .inl f3)), (q1, .inl (g.2 0, 40, .inl f3))] sz (fun _ => [(q2, .inl (g.2 0, 40, .inl f3)), (q1, .inl (g.2 0, 40, .inl f3))])) 0 0 (va_A [(q2, .inl (g.2 0, 40, .inl f3)), (q1, .inl (g.2 0, 40, .inl f3))] sz) := by
  refine ofN (by decide) (Nat.le_of_ble_eq_true rfl) rfl ?_
  intro p e s m args below meth c A ls hAe hsz hx hb hml hr hlocks hin hown hE hP hD hA hS hl
  have hown : s.vm.findClass RX9 = some m.cls := hown
  refine lv_aload_n hx hb dX9_copyRow_0 rfl (lv_at hl 0 rfl) ?_
  refine lv_iconst (v := 0) hx hb dX9_copyRow_1 (by decide) ?_
  refine lv_aload_n hx hb dX9_copyRow_2 rfl (lv_at hl 1 rfl) ?_
  refine lv_iconst (v := 0) hx hb dX9_copyRow_3 (by decide) ?_
  refine lv_aload_n hx hb dX9_copyRow_4 rfl (lv_at hl 0 rfl) ?_
  refine x_aleni (v := 40) hx hb hE hP 1 rfl rfl dX9_copyRow_5 ?_
  refine lv_aload_n hx hb dX9_copyRow_6 rfl (lv_at hl 1 rfl) ?_
  refine x_aleni (v := 40) hx hb hE hP 0 rfl rfl dX9_copyRow_7 ?_
  refine x_mmin (v := 40) hx hb (by rw [hml]; exact hl.1.symm) hown (e521 hE) (e362 hE) (e9 hE) (e363 hE) (Nat.le_of_ble_eq_true rfl) (Nat.le_of_ble_eq_true rfl) (Nat.le_of_ble_eq_true rfl) (Nat.le_of_ble_eq_true rfl) (by decide) dX9_copyRow_8 ?_
  refine x_copy (ws' := [(q2, .inl (g.2 0, 40, .inl f3)), (q1, .inl (g.2 0, 40, .inl f3))]) (ks := 0) (kd := 0) (kn := 40) hx hb (by rw [hml]; exact hl.1.symm) hown hE (e522 hE) (e379 hE) (e378 hE) (e21 hE) hP hD hS 1 0 rfl rfl (by decide) (by decide) (by decide) (by decide) (by decide) (by decide) (Nat.le_of_ble_eq_true rfl) (Nat.le_of_ble_eq_true rfl) (Nat.le_of_ble_eq_true rfl) (Nat.le_of_ble_eq_true rfl) dX9_copyRow_11 (by rw [va_cpy_self]; rfl) (fun H locs hP hD hS => ?_)
  exact x_vret hx hb hr hlocks hP hD hS hAe hsz (Nat.le_of_ble_eq_true rfl) (Nat.le_of_ble_eq_true rfl) (fun _ => 0) [0, 1] (by decide) rfl dX9_copyRow_14

set_option maxHeartbeats 4000000 in
set_option maxRecDepth 100000 in
theorem c121_X3_copyFrom (l : Launch) (g : gG) (q1 q2 q5 q8 q10 q11 : Nat) (f9 : Nat → Int32) (f12 : Nat → Int32) (sz : Nat) : Met l yX3_copyFrom [Cond.code yX3_copyFrom cX3_copyFrom 2 none] ({ frames := 2, cells := 0, slots := 0, locals := 85 } : Room) (va_Pc [.ref q1, .ref q2] (PX g sz [(q11, .inl (g.2 0, 40, .inl f12)), (q10, .inl (g.2 0, 40, .inl f12)), (q8, .inl (g.2 0, 384, .inl f9)), (q5, .inl (g.2 0, 384, .inl f9)), (q1, .inr (5, [.ref q8, .ref q11])), (q2, .inr (5, [.ref q5, .ref q10]))])) (QV g [(q11, .inl (g.2 0, 40, .inl f12)), (q10, .inl (g.2 0, 40, .inl f12)), (q8, .inl (g.2 0, 384, .inl f9)), (q5, .inl (g.2 0, 384, .inl f9)), (q1, .inr (5, [.ref q8, .ref q11])), (q2, .inr (5, [.ref q5, .ref q10]))] sz (fun _ => [(q1, .inr (5, [.ref q8, .ref q11])), (q2, .inr (5, [.ref q5, .ref q10])), (q8, .inl (g.2 0, 384, .inl f9)), (q5, .inl (g.2 0, 384, .inl f9)), (q11, .inl (g.2 0, 40, .inl f12)), (q10, .inl (g.2 0, 40, .inl f12))])) 0 0 (va_A [(q11, .inl (g.2 0, 40, .inl f12)), (q10, .inl (g.2 0, 40, .inl f12)), (q8, .inl (g.2 0, 384, .inl f9)), (q5, .inl (g.2 0, 384, .inl f9)), (q1, .inr (5, [.ref q8, .ref q11])), (q2, .inr (5, [.ref q5, .ref q10]))] sz) := by
  refine ofN (by decide) (Nat.le_of_ble_eq_true rfl) rfl ?_
  intro p e s m args below meth c A ls hAe hsz hx hb hml hr hlocks hin hown hE hP hD hA hS hl
  have hown : s.vm.findClass RX3 = some m.cls := hown
  refine lv_aload_n hx hb dX3_copyFrom_0 rfl (lv_at hl 1 rfl) ?_
  refine gf_RX3_9 hx hb hown hE hP 5 rfl rfl dX3_copyFrom_1 ?_
  refine lv_aload_n hx hb dX3_copyFrom_4 rfl (lv_at hl 0 rfl) ?_
  refine gf_RX3_9 hx hb hown hE hP 4 rfl rfl dX3_copyFrom_5 ?_
  refine g_v (wr := [(q11, .inl (g.2 0, 40, .inl f12)), (q10, .inl (g.2 0, 40, .inl f12)), (q1, .inr (5, [.ref q8, .ref q11])), (q2, .inr (5, [.ref q5, .ref q10]))]) (rSN (rest := []) hx hb hml hown hE hP hD (c119_X9_copyRow l g q5 q8 f9 s.heap.size) (kSN_X9_copyRow hE (e518 hE) rfl rfl ⟨(Nat.le_of_ble_eq_true rfl), (Nat.le_of_ble_eq_true rfl)⟩) [2, 3] rfl (by decide) rfl hl.1 rfl (lv_room (Nat.le_of_ble_eq_true rfl)) dX3_copyFrom_8 ⟨(Nat.le_of_ble_eq_true rfl), (Nat.le_of_ble_eq_true rfl)⟩) hP hD hS hA [2, 3] [0, 1, 4, 5] rfl rfl (by decide) (by decide) (fun u1 H locs hP hD hS => ?_)
  have hP : va_P g.1 vwCl [(q11, .inl (g.2 0, 40, .inl f12)), (q10, .inl (g.2 0, 40, .inl f12)), (q1, .inr (5, [.ref q8, .ref q11])), (q2, .inr (5, [.ref q5, .ref q10])), (q8, .inl (g.2 0, 384, .inl f9)), (q5, .inl (g.2 0, 384, .inl f9))] H := hP
  have hD : va_D A [(q11, .inl (g.2 0, 40, .inl f12)), (q10, .inl (g.2 0, 40, .inl f12)), (q1, .inr (5, [.ref q8, .ref q11])), (q2, .inr (5, [.ref q5, .ref q10])), (q8, .inl (g.2 0, 384, .inl f9)), (q5, .inl (g.2 0, 384, .inl f9))] := hD
  refine lv_aload_n hx hb dX3_copyFrom_11 rfl (lv_at hl 1 rfl) ?_
  refine gf_RX3_15 hx hb hown hE hP 3 rfl rfl dX3_copyFrom_12 ?_
  refine lv_aload_n hx hb dX3_copyFrom_15 rfl (lv_at hl 0 rfl) ?_
  refine gf_RX3_15 hx hb hown hE hP 2 rfl rfl dX3_copyFrom_16 ?_
  refine g_v (wr := [(q1, .inr (5, [.ref q8, .ref q11])), (q2, .inr (5, [.ref q5, .ref q10])), (q8, .inl (g.2 0, 384, .inl f9)), (q5, .inl (g.2 0, 384, .inl f9))]) (rSN (rest := []) hx hb hml hown hE hP hD (c120_X9_copyRow l g q10 q11 f12 H.size) (kSN_X9_copyRow hE (e518 hE) rfl rfl ⟨(Nat.le_of_ble_eq_true rfl), (Nat.le_of_ble_eq_true rfl)⟩) [0, 1] rfl (by decide) rfl hl.1 rfl (lv_room (Nat.le_of_ble_eq_true rfl)) dX3_copyFrom_19 ⟨(Nat.le_of_ble_eq_true rfl), (Nat.le_of_ble_eq_true rfl)⟩) hP hD hS hA [0, 1] [2, 3, 4, 5] rfl rfl (by decide) (by decide) (fun u2 H locs hP hD hS => ?_)
  have hP : va_P g.1 vwCl [(q1, .inr (5, [.ref q8, .ref q11])), (q2, .inr (5, [.ref q5, .ref q10])), (q8, .inl (g.2 0, 384, .inl f9)), (q5, .inl (g.2 0, 384, .inl f9)), (q11, .inl (g.2 0, 40, .inl f12)), (q10, .inl (g.2 0, 40, .inl f12))] H := hP
  have hD : va_D A [(q1, .inr (5, [.ref q8, .ref q11])), (q2, .inr (5, [.ref q5, .ref q10])), (q8, .inl (g.2 0, 384, .inl f9)), (q5, .inl (g.2 0, 384, .inl f9)), (q11, .inl (g.2 0, 40, .inl f12)), (q10, .inl (g.2 0, 40, .inl f12))] := hD
  exact x_vret hx hb hr hlocks hP hD hS hAe hsz (Nat.le_of_ble_eq_true rfl) (Nat.le_of_ble_eq_true rfl) (fun _ => 0) [0, 1, 2, 3, 4, 5] (by decide) rfl dX3_copyFrom_22

set_option maxHeartbeats 4000000 in
set_option maxRecDepth 100000 in
theorem c122_X9_copyRow (l : Launch) (g : gG) (q1 q2 : Nat) (f3 : Nat → Int32) (sz : Nat) : Met l yX9_copyRow [Cond.code yX9_copyRow cX9_copyRow 2 none] ({ frames := 1, cells := 0, slots := 0, locals := 64 } : Room) (va_Pc [.ref q1, .ref q2] (PX g sz [(q2, .inl (g.2 0, 10, .inl f3)), (q1, .inl (g.2 0, 10, .inl f3))])) (QV g [(q2, .inl (g.2 0, 10, .inl f3)), (q1, .inl (g.2 0, 10, .inl f3))] sz (fun _ => [(q2, .inl (g.2 0, 10, .inl f3)), (q1, .inl (g.2 0, 10, .inl f3))])) 0 0 (va_A [(q2, .inl (g.2 0, 10, .inl f3)), (q1, .inl (g.2 0, 10, .inl f3))] sz) := by
  refine ofN (by decide) (Nat.le_of_ble_eq_true rfl) rfl ?_
  intro p e s m args below meth c A ls hAe hsz hx hb hml hr hlocks hin hown hE hP hD hA hS hl
  have hown : s.vm.findClass RX9 = some m.cls := hown
  refine lv_aload_n hx hb dX9_copyRow_0 rfl (lv_at hl 0 rfl) ?_
  refine lv_iconst (v := 0) hx hb dX9_copyRow_1 (by decide) ?_
  refine lv_aload_n hx hb dX9_copyRow_2 rfl (lv_at hl 1 rfl) ?_
  refine lv_iconst (v := 0) hx hb dX9_copyRow_3 (by decide) ?_
  refine lv_aload_n hx hb dX9_copyRow_4 rfl (lv_at hl 0 rfl) ?_
  refine x_aleni (v := 10) hx hb hE hP 1 rfl rfl dX9_copyRow_5 ?_
  refine lv_aload_n hx hb dX9_copyRow_6 rfl (lv_at hl 1 rfl) ?_
  refine x_aleni (v := 10) hx hb hE hP 0 rfl rfl dX9_copyRow_7 ?_
  refine x_mmin (v := 10) hx hb (by rw [hml]; exact hl.1.symm) hown (e521 hE) (e362 hE) (e9 hE) (e363 hE) (Nat.le_of_ble_eq_true rfl) (Nat.le_of_ble_eq_true rfl) (Nat.le_of_ble_eq_true rfl) (Nat.le_of_ble_eq_true rfl) (by decide) dX9_copyRow_8 ?_
  refine x_copy (ws' := [(q2, .inl (g.2 0, 10, .inl f3)), (q1, .inl (g.2 0, 10, .inl f3))]) (ks := 0) (kd := 0) (kn := 10) hx hb (by rw [hml]; exact hl.1.symm) hown hE (e522 hE) (e379 hE) (e378 hE) (e21 hE) hP hD hS 1 0 rfl rfl (by decide) (by decide) (by decide) (by decide) (by decide) (by decide) (Nat.le_of_ble_eq_true rfl) (Nat.le_of_ble_eq_true rfl) (Nat.le_of_ble_eq_true rfl) (Nat.le_of_ble_eq_true rfl) dX9_copyRow_11 (by rw [va_cpy_self]; rfl) (fun H locs hP hD hS => ?_)
  exact x_vret hx hb hr hlocks hP hD hS hAe hsz (Nat.le_of_ble_eq_true rfl) (Nat.le_of_ble_eq_true rfl) (fun _ => 0) [0, 1] (by decide) rfl dX9_copyRow_14

set_option maxHeartbeats 4000000 in
set_option maxRecDepth 100000 in
theorem c123_X7_copyFrom (l : Launch) (g : gG) (q1 q2 q7 q12 q14 q15 : Nat) (w10 w11 : Value) (f13 : Nat → Int32) (f16 : Nat → Int32) (sz : Nat) : Met l yX7_copyFrom [Cond.code yX7_copyFrom cX7_copyFrom 2 none] ({ frames := 2, cells := 0, slots := 0, locals := 85 } : Room) (va_Pc [.ref q1, .ref q2] (PX g sz [(q15, .inl (g.2 0, 10, .inl f16)), (q14, .inl (g.2 0, 10, .inl f16)), (q12, .inl (g.2 0, 10, .inl f13)), (q7, .inl (g.2 0, 10, .inl f13)), (q1, .inr (9, [.ref q12, .ref q15, w10, w11])), (q2, .inr (9, [.ref q7, .ref q14, .int 1, .int 0]))])) (QV g [(q15, .inl (g.2 0, 10, .inl f16)), (q14, .inl (g.2 0, 10, .inl f16)), (q12, .inl (g.2 0, 10, .inl f13)), (q7, .inl (g.2 0, 10, .inl f13)), (q1, .inr (9, [.ref q12, .ref q15, w10, w11])), (q2, .inr (9, [.ref q7, .ref q14, .int 1, .int 0]))] sz (fun _ => [(q1, .inr (9, [.ref q12, .ref q15, .int 1, .int 0])), (q2, .inr (9, [.ref q7, .ref q14, .int 1, .int 0])), (q12, .inl (g.2 0, 10, .inl f13)), (q7, .inl (g.2 0, 10, .inl f13)), (q15, .inl (g.2 0, 10, .inl f16)), (q14, .inl (g.2 0, 10, .inl f16))])) 0 0 (va_A [(q15, .inl (g.2 0, 10, .inl f16)), (q14, .inl (g.2 0, 10, .inl f16)), (q12, .inl (g.2 0, 10, .inl f13)), (q7, .inl (g.2 0, 10, .inl f13)), (q1, .inr (9, [.ref q12, .ref q15, w10, w11])), (q2, .inr (9, [.ref q7, .ref q14, .int 1, .int 0]))] sz) := by
  refine ofN (by decide) (Nat.le_of_ble_eq_true rfl) rfl ?_
  intro p e s m args below meth c A ls hAe hsz hx hb hml hr hlocks hin hown hE hP hD hA hS hl
  have hown : s.vm.findClass RX7 = some m.cls := hown
  refine lv_aload_n hx hb dX7_copyFrom_0 rfl (lv_at hl 1 rfl) ?_
  refine gf_RX7_9 hx hb hown hE hP 5 rfl rfl dX7_copyFrom_1 ?_
  refine lv_aload_n hx hb dX7_copyFrom_4 rfl (lv_at hl 0 rfl) ?_
  refine gf_RX7_9 hx hb hown hE hP 4 rfl rfl dX7_copyFrom_5 ?_
  refine g_v (wr := [(q15, .inl (g.2 0, 10, .inl f16)), (q14, .inl (g.2 0, 10, .inl f16)), (q1, .inr (9, [.ref q12, .ref q15, w10, w11])), (q2, .inr (9, [.ref q7, .ref q14, .int 1, .int 0]))]) (rSN (rest := []) hx hb hml hown hE hP hD (c122_X9_copyRow l g q7 q12 f13 s.heap.size) (kSN_X9_copyRow hE (e527 hE) rfl rfl ⟨(Nat.le_of_ble_eq_true rfl), (Nat.le_of_ble_eq_true rfl)⟩) [2, 3] rfl (by decide) rfl hl.1 rfl (lv_room (Nat.le_of_ble_eq_true rfl)) dX7_copyFrom_8 ⟨(Nat.le_of_ble_eq_true rfl), (Nat.le_of_ble_eq_true rfl)⟩) hP hD hS hA [2, 3] [0, 1, 4, 5] rfl rfl (by decide) (by decide) (fun u1 H locs hP hD hS => ?_)
  have hP : va_P g.1 vwCl [(q15, .inl (g.2 0, 10, .inl f16)), (q14, .inl (g.2 0, 10, .inl f16)), (q1, .inr (9, [.ref q12, .ref q15, w10, w11])), (q2, .inr (9, [.ref q7, .ref q14, .int 1, .int 0])), (q12, .inl (g.2 0, 10, .inl f13)), (q7, .inl (g.2 0, 10, .inl f13))] H := hP
  have hD : va_D A [(q15, .inl (g.2 0, 10, .inl f16)), (q14, .inl (g.2 0, 10, .inl f16)), (q1, .inr (9, [.ref q12, .ref q15, w10, w11])), (q2, .inr (9, [.ref q7, .ref q14, .int 1, .int 0])), (q12, .inl (g.2 0, 10, .inl f13)), (q7, .inl (g.2 0, 10, .inl f13))] := hD
  refine lv_aload_n hx hb dX7_copyFrom_11 rfl (lv_at hl 1 rfl) ?_
  refine gf_RX7_15 hx hb hown hE hP 3 rfl rfl dX7_copyFrom_12 ?_
  refine lv_aload_n hx hb dX7_copyFrom_15 rfl (lv_at hl 0 rfl) ?_
  refine gf_RX7_15 hx hb hown hE hP 2 rfl rfl dX7_copyFrom_16 ?_
  refine g_v (wr := [(q1, .inr (9, [.ref q12, .ref q15, w10, w11])), (q2, .inr (9, [.ref q7, .ref q14, .int 1, .int 0])), (q12, .inl (g.2 0, 10, .inl f13)), (q7, .inl (g.2 0, 10, .inl f13))]) (rSN (rest := []) hx hb hml hown hE hP hD (c122_X9_copyRow l g q14 q15 f16 H.size) (kSN_X9_copyRow hE (e527 hE) rfl rfl ⟨(Nat.le_of_ble_eq_true rfl), (Nat.le_of_ble_eq_true rfl)⟩) [0, 1] rfl (by decide) rfl hl.1 rfl (lv_room (Nat.le_of_ble_eq_true rfl)) dX7_copyFrom_19 ⟨(Nat.le_of_ble_eq_true rfl), (Nat.le_of_ble_eq_true rfl)⟩) hP hD hS hA [0, 1] [2, 3, 4, 5] rfl rfl (by decide) (by decide) (fun u2 H locs hP hD hS => ?_)
  have hP : va_P g.1 vwCl [(q1, .inr (9, [.ref q12, .ref q15, w10, w11])), (q2, .inr (9, [.ref q7, .ref q14, .int 1, .int 0])), (q12, .inl (g.2 0, 10, .inl f13)), (q7, .inl (g.2 0, 10, .inl f13)), (q15, .inl (g.2 0, 10, .inl f16)), (q14, .inl (g.2 0, 10, .inl f16))] H := hP
  have hD : va_D A [(q1, .inr (9, [.ref q12, .ref q15, w10, w11])), (q2, .inr (9, [.ref q7, .ref q14, .int 1, .int 0])), (q12, .inl (g.2 0, 10, .inl f13)), (q7, .inl (g.2 0, 10, .inl f13)), (q15, .inl (g.2 0, 10, .inl f16)), (q14, .inl (g.2 0, 10, .inl f16))] := hD
  refine lv_aload_n hx hb dX7_copyFrom_22 rfl (lv_at hl 0 rfl) ?_
  refine lv_aload_n hx hb dX7_copyFrom_23 rfl (lv_at hl 1 rfl) ?_
  refine gf_RX7_18 hx hb hown hE hP 1 rfl rfl dX7_copyFrom_24 ?_
  refine pf_RX7_18 (ws' := [(q1, .inr (9, [.ref q12, .ref q15, .int 1, w11])), (q2, .inr (9, [.ref q7, .ref q14, .int 1, .int 0])), (q12, .inl (g.2 0, 10, .inl f13)), (q7, .inl (g.2 0, 10, .inl f13)), (q15, .inl (g.2 0, 10, .inl f16)), (q14, .inl (g.2 0, 10, .inl f16))]) hx hb hown hE hP hD hS 0 rfl rfl rfl (Nat.le_of_ble_eq_true rfl) dX7_copyFrom_27 rfl (fun H locs hP hD hS => ?_)
  refine lv_aload_n hx hb dX7_copyFrom_30 rfl (lv_at hl 0 rfl) ?_
  refine lv_aload_n hx hb dX7_copyFrom_31 rfl (lv_at hl 1 rfl) ?_
  refine gf_RX7_22 hx hb hown hE hP 1 rfl rfl dX7_copyFrom_32 ?_
  refine pf_RX7_22 (ws' := [(q1, .inr (9, [.ref q12, .ref q15, .int 1, .int 0])), (q2, .inr (9, [.ref q7, .ref q14, .int 1, .int 0])), (q12, .inl (g.2 0, 10, .inl f13)), (q7, .inl (g.2 0, 10, .inl f13)), (q15, .inl (g.2 0, 10, .inl f16)), (q14, .inl (g.2 0, 10, .inl f16))]) hx hb hown hE hP hD hS 0 rfl rfl rfl (Nat.le_of_ble_eq_true rfl) dX7_copyFrom_35 rfl (fun H locs hP hD hS => ?_)
  exact x_vret hx hb hr hlocks hP hD hS hAe hsz (Nat.le_of_ble_eq_true rfl) (Nat.le_of_ble_eq_true rfl) (fun _ => 0) [0, 1, 2, 3, 4, 5] (by decide) rfl dX7_copyFrom_38

set_option maxHeartbeats 4000000 in
set_option maxRecDepth 100000 in
theorem c124_X9_copyRow (l : Launch) (g : gG) (q1 q2 : Nat) (f3 : Nat → Int32) (sz : Nat) : Met l yX9_copyRow [Cond.code yX9_copyRow cX9_copyRow 2 none] ({ frames := 1, cells := 0, slots := 0, locals := 64 } : Room) (va_Pc [.ref q1, .ref q2] (PX g sz [(q2, .inl (g.2 0, 60, .inl f3)), (q1, .inl (g.2 0, 60, .inl f3))])) (QV g [(q2, .inl (g.2 0, 60, .inl f3)), (q1, .inl (g.2 0, 60, .inl f3))] sz (fun _ => [(q2, .inl (g.2 0, 60, .inl f3)), (q1, .inl (g.2 0, 60, .inl f3))])) 0 0 (va_A [(q2, .inl (g.2 0, 60, .inl f3)), (q1, .inl (g.2 0, 60, .inl f3))] sz) := by
  refine ofN (by decide) (Nat.le_of_ble_eq_true rfl) rfl ?_
  intro p e s m args below meth c A ls hAe hsz hx hb hml hr hlocks hin hown hE hP hD hA hS hl
  have hown : s.vm.findClass RX9 = some m.cls := hown
  refine lv_aload_n hx hb dX9_copyRow_0 rfl (lv_at hl 0 rfl) ?_
  refine lv_iconst (v := 0) hx hb dX9_copyRow_1 (by decide) ?_
  refine lv_aload_n hx hb dX9_copyRow_2 rfl (lv_at hl 1 rfl) ?_
  refine lv_iconst (v := 0) hx hb dX9_copyRow_3 (by decide) ?_
  refine lv_aload_n hx hb dX9_copyRow_4 rfl (lv_at hl 0 rfl) ?_
  refine x_aleni (v := 60) hx hb hE hP 1 rfl rfl dX9_copyRow_5 ?_
  refine lv_aload_n hx hb dX9_copyRow_6 rfl (lv_at hl 1 rfl) ?_
  refine x_aleni (v := 60) hx hb hE hP 0 rfl rfl dX9_copyRow_7 ?_
  refine x_mmin (v := 60) hx hb (by rw [hml]; exact hl.1.symm) hown (e521 hE) (e362 hE) (e9 hE) (e363 hE) (Nat.le_of_ble_eq_true rfl) (Nat.le_of_ble_eq_true rfl) (Nat.le_of_ble_eq_true rfl) (Nat.le_of_ble_eq_true rfl) (by decide) dX9_copyRow_8 ?_
  refine x_copy (ws' := [(q2, .inl (g.2 0, 60, .inl f3)), (q1, .inl (g.2 0, 60, .inl f3))]) (ks := 0) (kd := 0) (kn := 60) hx hb (by rw [hml]; exact hl.1.symm) hown hE (e522 hE) (e379 hE) (e378 hE) (e21 hE) hP hD hS 1 0 rfl rfl (by decide) (by decide) (by decide) (by decide) (by decide) (by decide) (Nat.le_of_ble_eq_true rfl) (Nat.le_of_ble_eq_true rfl) (Nat.le_of_ble_eq_true rfl) (Nat.le_of_ble_eq_true rfl) dX9_copyRow_11 (by rw [va_cpy_self]; rfl) (fun H locs hP hD hS => ?_)
  exact x_vret hx hb hr hlocks hP hD hS hAe hsz (Nat.le_of_ble_eq_true rfl) (Nat.le_of_ble_eq_true rfl) (fun _ => 0) [0, 1] (by decide) rfl dX9_copyRow_14

set_option maxHeartbeats 4000000 in
set_option maxRecDepth 100000 in
theorem c125_X9_copyRow (l : Launch) (g : gG) (q1 q2 : Nat) (f3 : Nat → Int32) (sz : Nat) : Met l yX9_copyRow [Cond.code yX9_copyRow cX9_copyRow 2 none] ({ frames := 1, cells := 0, slots := 0, locals := 64 } : Room) (va_Pc [.ref q1, .ref q2] (PX g sz [(q2, .inl (g.2 0, 20, .inl f3)), (q1, .inl (g.2 0, 20, .inl f3))])) (QV g [(q2, .inl (g.2 0, 20, .inl f3)), (q1, .inl (g.2 0, 20, .inl f3))] sz (fun _ => [(q2, .inl (g.2 0, 20, .inl f3)), (q1, .inl (g.2 0, 20, .inl f3))])) 0 0 (va_A [(q2, .inl (g.2 0, 20, .inl f3)), (q1, .inl (g.2 0, 20, .inl f3))] sz) := by
  refine ofN (by decide) (Nat.le_of_ble_eq_true rfl) rfl ?_
  intro p e s m args below meth c A ls hAe hsz hx hb hml hr hlocks hin hown hE hP hD hA hS hl
  have hown : s.vm.findClass RX9 = some m.cls := hown
  refine lv_aload_n hx hb dX9_copyRow_0 rfl (lv_at hl 0 rfl) ?_
  refine lv_iconst (v := 0) hx hb dX9_copyRow_1 (by decide) ?_
  refine lv_aload_n hx hb dX9_copyRow_2 rfl (lv_at hl 1 rfl) ?_
  refine lv_iconst (v := 0) hx hb dX9_copyRow_3 (by decide) ?_
  refine lv_aload_n hx hb dX9_copyRow_4 rfl (lv_at hl 0 rfl) ?_
  refine x_aleni (v := 20) hx hb hE hP 1 rfl rfl dX9_copyRow_5 ?_
  refine lv_aload_n hx hb dX9_copyRow_6 rfl (lv_at hl 1 rfl) ?_
  refine x_aleni (v := 20) hx hb hE hP 0 rfl rfl dX9_copyRow_7 ?_
  refine x_mmin (v := 20) hx hb (by rw [hml]; exact hl.1.symm) hown (e521 hE) (e362 hE) (e9 hE) (e363 hE) (Nat.le_of_ble_eq_true rfl) (Nat.le_of_ble_eq_true rfl) (Nat.le_of_ble_eq_true rfl) (Nat.le_of_ble_eq_true rfl) (by decide) dX9_copyRow_8 ?_
  refine x_copy (ws' := [(q2, .inl (g.2 0, 20, .inl f3)), (q1, .inl (g.2 0, 20, .inl f3))]) (ks := 0) (kd := 0) (kn := 20) hx hb (by rw [hml]; exact hl.1.symm) hown hE (e522 hE) (e379 hE) (e378 hE) (e21 hE) hP hD hS 1 0 rfl rfl (by decide) (by decide) (by decide) (by decide) (by decide) (by decide) (Nat.le_of_ble_eq_true rfl) (Nat.le_of_ble_eq_true rfl) (Nat.le_of_ble_eq_true rfl) (Nat.le_of_ble_eq_true rfl) dX9_copyRow_11 (by rw [va_cpy_self]; rfl) (fun H locs hP hD hS => ?_)
  exact x_vret hx hb hr hlocks hP hD hS hAe hsz (Nat.le_of_ble_eq_true rfl) (Nat.le_of_ble_eq_true rfl) (fun _ => 0) [0, 1] (by decide) rfl dX9_copyRow_14

set_option maxHeartbeats 4000000 in
set_option maxRecDepth 100000 in
theorem c126_X6_copyFrom (l : Launch) (g : gG) (q1 q2 q10 q18 q21 q24 q26 q27 q29 q30 q35 q40 q41 q42 q44 q45 q46 q47 : Nat) (w7 w8 w9 w38 w39 : Value) (f25 : Nat → Int32) (f28 : Nat → Int32) (f43 : Nat → Int32) (f48 : Nat → Int32) (sz : Nat) : Met l yX6_copyFrom [Cond.code yX6_copyFrom cX6_copyFrom 2 none] ({ frames := 3, cells := 0, slots := 0, locals := 106 } : Room) (va_Pc [.ref q1, .ref q2] (PX g sz [(q47, .inl (g.2 0, 20, .inl f48)), (q46, .inl (g.2 0, 20, .inl f48)), (q45, .inl (g.2 0, 60, .inl f25)), (q44, .inl (g.2 0, 60, .inl f25)), (q42, .inl (g.2 0, 10, .inl f43)), (q41, .inl (g.2 0, 10, .inl f43)), (q40, .inl (g.2 0, 10, .inl f25)), (q35, .inl (g.2 0, 10, .inl f25)), (q29, .inr (9, [.ref q40, .ref q42, w38, w39])), (q30, .inr (9, [.ref q35, .ref q41, .int 1, .int 0])), (q27, .inl (g.2 0, 40, .inl f28)), (q26, .inl (g.2 0, 40, .inl f28)), (q24, .inl (g.2 0, 384, .inl f25)), (q21, .inl (g.2 0, 384, .inl f25)), (q10, .inr (5, [.ref q24, .ref q27])), (q18, .inr (5, [.ref q21, .ref q26])), (q2, .inr (8, [.ref q18, .ref q30, .ref q44, .ref q46, .int 0, .int 4, .int 0])), (q1, .inr (8, [.ref q10, .ref q29, .ref q45, .ref q47, w7, w8, w9]))])) (QV g [(q47, .inl (g.2 0, 20, .inl f48)), (q46, .inl (g.2 0, 20, .inl f48)), (q45, .inl (g.2 0, 60, .inl f25)), (q44, .inl (g.2 0, 60, .inl f25)), (q42, .inl (g.2 0, 10, .inl f43)), (q41, .inl (g.2 0, 10, .inl f43)), (q40, .inl (g.2 0, 10, .inl f25)), (q35, .inl (g.2 0, 10, .inl f25)), (q29, .inr (9, [.ref q40, .ref q42, w38, w39])), (q30, .inr (9, [.ref q35, .ref q41, .int 1, .int 0])), (q27, .inl (g.2 0, 40, .inl f28)), (q26, .inl (g.2 0, 40, .inl f28)), (q24, .inl (g.2 0, 384, .inl f25)), (q21, .inl (g.2 0, 384, .inl f25)), (q10, .inr (5, [.ref q24, .ref q27])), (q18, .inr (5, [.ref q21, .ref q26])), (q2, .inr (8, [.ref q18, .ref q30, .ref q44, .ref q46, .int 0, .int 4, .int 0])), (q1, .inr (8, [.ref q10, .ref q29, .ref q45, .ref q47, w7, w8, w9]))] sz (fun _ => [(q2, .inr (8, [.ref q18, .ref q30, .ref q44, .ref q46, .int 0, .int 4, .int 0])), (q1, .inr (8, [.ref q10, .ref q29, .ref q45, .ref q47, .int 0, .int 4, .int 0])), (q10, .inr (5, [.ref q24, .ref q27])), (q18, .inr (5, [.ref q21, .ref q26])), (q24, .inl (g.2 0, 384, .inl f25)), (q21, .inl (g.2 0, 384, .inl f25)), (q27, .inl (g.2 0, 40, .inl f28)), (q26, .inl (g.2 0, 40, .inl f28)), (q29, .inr (9, [.ref q40, .ref q42, .int 1, .int 0])), (q30, .inr (9, [.ref q35, .ref q41, .int 1, .int 0])), (q40, .inl (g.2 0, 10, .inl f25)), (q35, .inl (g.2 0, 10, .inl f25)), (q42, .inl (g.2 0, 10, .inl f43)), (q41, .inl (g.2 0, 10, .inl f43)), (q45, .inl (g.2 0, 60, .inl f25)), (q44, .inl (g.2 0, 60, .inl f25)), (q47, .inl (g.2 0, 20, .inl f48)), (q46, .inl (g.2 0, 20, .inl f48))])) 0 0 (va_A [(q47, .inl (g.2 0, 20, .inl f48)), (q46, .inl (g.2 0, 20, .inl f48)), (q45, .inl (g.2 0, 60, .inl f25)), (q44, .inl (g.2 0, 60, .inl f25)), (q42, .inl (g.2 0, 10, .inl f43)), (q41, .inl (g.2 0, 10, .inl f43)), (q40, .inl (g.2 0, 10, .inl f25)), (q35, .inl (g.2 0, 10, .inl f25)), (q29, .inr (9, [.ref q40, .ref q42, w38, w39])), (q30, .inr (9, [.ref q35, .ref q41, .int 1, .int 0])), (q27, .inl (g.2 0, 40, .inl f28)), (q26, .inl (g.2 0, 40, .inl f28)), (q24, .inl (g.2 0, 384, .inl f25)), (q21, .inl (g.2 0, 384, .inl f25)), (q10, .inr (5, [.ref q24, .ref q27])), (q18, .inr (5, [.ref q21, .ref q26])), (q2, .inr (8, [.ref q18, .ref q30, .ref q44, .ref q46, .int 0, .int 4, .int 0])), (q1, .inr (8, [.ref q10, .ref q29, .ref q45, .ref q47, w7, w8, w9]))] sz) := by
  refine ofN (by decide) (Nat.le_of_ble_eq_true rfl) rfl ?_
  intro p e s m args below meth c A ls hAe hsz hx hb hml hr hlocks hin hown hE hP hD hA hS hl
  have hown : s.vm.findClass RX6 = some m.cls := hown
  refine lv_aload_n hx hb dX6_copyFrom_0 rfl (lv_at hl 0 rfl) ?_
  refine gf_RX6_12 hx hb hown hE hP 17 rfl rfl dX6_copyFrom_1 ?_
  refine lv_aload_n hx hb dX6_copyFrom_4 rfl (lv_at hl 1 rfl) ?_
  refine gf_RX6_12 hx hb hown hE hP 16 rfl rfl dX6_copyFrom_5 ?_
  refine g_v (wr := [(q47, .inl (g.2 0, 20, .inl f48)), (q46, .inl (g.2 0, 20, .inl f48)), (q45, .inl (g.2 0, 60, .inl f25)), (q44, .inl (g.2 0, 60, .inl f25)), (q42, .inl (g.2 0, 10, .inl f43)), (q41, .inl (g.2 0, 10, .inl f43)), (q40, .inl (g.2 0, 10, .inl f25)), (q35, .inl (g.2 0, 10, .inl f25)), (q29, .inr (9, [.ref q40, .ref q42, w38, w39])), (q30, .inr (9, [.ref q35, .ref q41, .int 1, .int 0])), (q2, .inr (8, [.ref q18, .ref q30, .ref q44, .ref q46, .int 0, .int 4, .int 0])), (q1, .inr (8, [.ref q10, .ref q29, .ref q45, .ref q47, w7, w8, w9]))]) (rV (rest := []) hx hb hml hown hE hP hD 14 rfl rfl (c121_X3_copyFrom l g q10 q18 q21 q24 q26 q27 f25 f28 s.heap.size) (kV_X3_copyFrom hE (e514 hE) rfl rfl ⟨(Nat.le_of_ble_eq_true rfl), (Nat.le_of_ble_eq_true rfl)⟩) [10, 11, 12, 13, 14, 15] rfl (by decide) rfl hl.1 rfl (lv_room (Nat.le_of_ble_eq_true rfl)) dX6_copyFrom_8 ⟨(Nat.le_of_ble_eq_true rfl), (Nat.le_of_ble_eq_true rfl)⟩) hP hD hS hA [10, 11, 12, 13, 14, 15] [0, 1, 2, 3, 4, 5, 6, 7, 8, 9, 16, 17] rfl rfl (by decide) (by decide) (fun u1 H locs hP hD hS => ?_)
  have hP : va_P g.1 vwCl [(q47, .inl (g.2 0, 20, .inl f48)), (q46, .inl (g.2 0, 20, .inl f48)), (q45, .inl (g.2 0, 60, .inl f25)), (q44, .inl (g.2 0, 60, .inl f25)), (q42, .inl (g.2 0, 10, .inl f43)), (q41, .inl (g.2 0, 10, .inl f43)), (q40, .inl (g.2 0, 10, .inl f25)), (q35, .inl (g.2 0, 10, .inl f25)), (q29, .inr (9, [.ref q40, .ref q42, w38, w39])), (q30, .inr (9, [.ref q35, .ref q41, .int 1, .int 0])), (q2, .inr (8, [.ref q18, .ref q30, .ref q44, .ref q46, .int 0, .int 4, .int 0])), (q1, .inr (8, [.ref q10, .ref q29, .ref q45, .ref q47, w7, w8, w9])), (q10, .inr (5, [.ref q24, .ref q27])), (q18, .inr (5, [.ref q21, .ref q26])), (q24, .inl (g.2 0, 384, .inl f25)), (q21, .inl (g.2 0, 384, .inl f25)), (q27, .inl (g.2 0, 40, .inl f28)), (q26, .inl (g.2 0, 40, .inl f28))] H := hP
  have hD : va_D A [(q47, .inl (g.2 0, 20, .inl f48)), (q46, .inl (g.2 0, 20, .inl f48)), (q45, .inl (g.2 0, 60, .inl f25)), (q44, .inl (g.2 0, 60, .inl f25)), (q42, .inl (g.2 0, 10, .inl f43)), (q41, .inl (g.2 0, 10, .inl f43)), (q40, .inl (g.2 0, 10, .inl f25)), (q35, .inl (g.2 0, 10, .inl f25)), (q29, .inr (9, [.ref q40, .ref q42, w38, w39])), (q30, .inr (9, [.ref q35, .ref q41, .int 1, .int 0])), (q2, .inr (8, [.ref q18, .ref q30, .ref q44, .ref q46, .int 0, .int 4, .int 0])), (q1, .inr (8, [.ref q10, .ref q29, .ref q45, .ref q47, w7, w8, w9])), (q10, .inr (5, [.ref q24, .ref q27])), (q18, .inr (5, [.ref q21, .ref q26])), (q24, .inl (g.2 0, 384, .inl f25)), (q21, .inl (g.2 0, 384, .inl f25)), (q27, .inl (g.2 0, 40, .inl f28)), (q26, .inl (g.2 0, 40, .inl f28))] := hD
  refine lv_aload_n hx hb dX6_copyFrom_11 rfl (lv_at hl 0 rfl) ?_
  refine gf_RX6_21 hx hb hown hE hP 11 rfl rfl dX6_copyFrom_12 ?_
  refine lv_aload_n hx hb dX6_copyFrom_15 rfl (lv_at hl 1 rfl) ?_
  refine gf_RX6_21 hx hb hown hE hP 10 rfl rfl dX6_copyFrom_16 ?_
  refine g_v (wr := [(q47, .inl (g.2 0, 20, .inl f48)), (q46, .inl (g.2 0, 20, .inl f48)), (q45, .inl (g.2 0, 60, .inl f25)), (q44, .inl (g.2 0, 60, .inl f25)), (q2, .inr (8, [.ref q18, .ref q30, .ref q44, .ref q46, .int 0, .int 4, .int 0])), (q1, .inr (8, [.ref q10, .ref q29, .ref q45, .ref q47, w7, w8, w9])), (q10, .inr (5, [.ref q24, .ref q27])), (q18, .inr (5, [.ref q21, .ref q26])), (q24, .inl (g.2 0, 384, .inl f25)), (q21, .inl (g.2 0, 384, .inl f25)), (q27, .inl (g.2 0, 40, .inl f28)), (q26, .inl (g.2 0, 40, .inl f28))]) (rV (rest := []) hx hb hml hown hE hP hD 8 rfl rfl (c123_X7_copyFrom l g q29 q30 q35 q40 q41 q42 w38 w39 f25 f43 H.size) (kV_X7_copyFrom hE (e523 hE) rfl rfl ⟨(Nat.le_of_ble_eq_true rfl), (Nat.le_of_ble_eq_true rfl)⟩) [4, 5, 6, 7, 8, 9] rfl (by decide) rfl hl.1 rfl (lv_room (Nat.le_of_ble_eq_true rfl)) dX6_copyFrom_19 ⟨(Nat.le_of_ble_eq_true rfl), (Nat.le_of_ble_eq_true rfl)⟩) hP hD hS hA [4, 5, 6, 7, 8, 9] [0, 1, 2, 3, 10, 11, 12, 13, 14, 15, 16, 17] rfl rfl (by decide) (by decide) (fun u2 H locs hP hD hS => ?_)
  have hP : va_P g.1 vwCl [(q47, .inl (g.2 0, 20, .inl f48)), (q46, .inl (g.2 0, 20, .inl f48)), (q45, .inl (g.2 0, 60, .inl f25)), (q44, .inl (g.2 0, 60, .inl f25)), (q2, .inr (8, [.ref q18, .ref q30, .ref q44, .ref q46, .int 0, .int 4, .int 0])), (q1, .inr (8, [.ref q10, .ref q29, .ref q45, .ref q47, w7, w8, w9])), (q10, .inr (5, [.ref q24, .ref q27])), (q18, .inr (5, [.ref q21, .ref q26])), (q24, .inl (g.2 0, 384, .inl f25)), (q21, .inl (g.2 0, 384, .inl f25)), (q27, .inl (g.2 0, 40, .inl f28)), (q26, .inl (g.2 0, 40, .inl f28)), (q29, .inr (9, [.ref q40, .ref q42, .int 1, .int 0])), (q30, .inr (9, [.ref q35, .ref q41, .int 1, .int 0])), (q40, .inl (g.2 0, 10, .inl f25)), (q35, .inl (g.2 0, 10, .inl f25)), (q42, .inl (g.2 0, 10, .inl f43)), (q41, .inl (g.2 0, 10, .inl f43))] H := hP
  have hD : va_D A [(q47, .inl (g.2 0, 20, .inl f48)), (q46, .inl (g.2 0, 20, .inl f48)), (q45, .inl (g.2 0, 60, .inl f25)), (q44, .inl (g.2 0, 60, .inl f25)), (q2, .inr (8, [.ref q18, .ref q30, .ref q44, .ref q46, .int 0, .int 4, .int 0])), (q1, .inr (8, [.ref q10, .ref q29, .ref q45, .ref q47, w7, w8, w9])), (q10, .inr (5, [.ref q24, .ref q27])), (q18, .inr (5, [.ref q21, .ref q26])), (q24, .inl (g.2 0, 384, .inl f25)), (q21, .inl (g.2 0, 384, .inl f25)), (q27, .inl (g.2 0, 40, .inl f28)), (q26, .inl (g.2 0, 40, .inl f28)), (q29, .inr (9, [.ref q40, .ref q42, .int 1, .int 0])), (q30, .inr (9, [.ref q35, .ref q41, .int 1, .int 0])), (q40, .inl (g.2 0, 10, .inl f25)), (q35, .inl (g.2 0, 10, .inl f25)), (q42, .inl (g.2 0, 10, .inl f43)), (q41, .inl (g.2 0, 10, .inl f43))] := hD
  refine lv_aload_n hx hb dX6_copyFrom_22 rfl (lv_at hl 1 rfl) ?_
  refine gf_RX6_25 hx hb hown hE hP 4 rfl rfl dX6_copyFrom_23 ?_
  refine lv_aload_n hx hb dX6_copyFrom_26 rfl (lv_at hl 0 rfl) ?_
  refine gf_RX6_25 hx hb hown hE hP 5 rfl rfl dX6_copyFrom_27 ?_
  refine g_v (wr := [(q47, .inl (g.2 0, 20, .inl f48)), (q46, .inl (g.2 0, 20, .inl f48)), (q2, .inr (8, [.ref q18, .ref q30, .ref q44, .ref q46, .int 0, .int 4, .int 0])), (q1, .inr (8, [.ref q10, .ref q29, .ref q45, .ref q47, w7, w8, w9])), (q10, .inr (5, [.ref q24, .ref q27])), (q18, .inr (5, [.ref q21, .ref q26])), (q24, .inl (g.2 0, 384, .inl f25)), (q21, .inl (g.2 0, 384, .inl f25)), (q27, .inl (g.2 0, 40, .inl f28)), (q26, .inl (g.2 0, 40, .inl f28)), (q29, .inr (9, [.ref q40, .ref q42, .int 1, .int 0])), (q30, .inr (9, [.ref q35, .ref q41, .int 1, .int 0])), (q40, .inl (g.2 0, 10, .inl f25)), (q35, .inl (g.2 0, 10, .inl f25)), (q42, .inl (g.2 0, 10, .inl f43)), (q41, .inl (g.2 0, 10, .inl f43))]) (rSN (rest := []) hx hb hml hown hE hP hD (c124_X9_copyRow l g q44 q45 f25 H.size) (kSN_X9_copyRow hE (e528 hE) rfl rfl ⟨(Nat.le_of_ble_eq_true rfl), (Nat.le_of_ble_eq_true rfl)⟩) [2, 3] rfl (by decide) rfl hl.1 rfl (lv_room (Nat.le_of_ble_eq_true rfl)) dX6_copyFrom_30 ⟨(Nat.le_of_ble_eq_true rfl), (Nat.le_of_ble_eq_true rfl)⟩) hP hD hS hA [2, 3] [0, 1, 4, 5, 6, 7, 8, 9, 10, 11, 12, 13, 14, 15, 16, 17] rfl rfl (by decide) (by decide) (fun u3 H locs hP hD hS => ?_)
  have hP : va_P g.1 vwCl [(q47, .inl (g.2 0, 20, .inl f48)), (q46, .inl (g.2 0, 20, .inl f48)), (q2, .inr (8, [.ref q18, .ref q30, .ref q44, .ref q46, .int 0, .int 4, .int 0])), (q1, .inr (8, [.ref q10, .ref q29, .ref q45, .ref q47, w7, w8, w9])), (q10, .inr (5, [.ref q24, .ref q27])), (q18, .inr (5, [.ref q21, .ref q26])), (q24, .inl (g.2 0, 384, .inl f25)), (q21, .inl (g.2 0, 384, .inl f25)), (q27, .inl (g.2 0, 40, .inl f28)), (q26, .inl (g.2 0, 40, .inl f28)), (q29, .inr (9, [.ref q40, .ref q42, .int 1, .int 0])), (q30, .inr (9, [.ref q35, .ref q41, .int 1, .int 0])), (q40, .inl (g.2 0, 10, .inl f25)), (q35, .inl (g.2 0, 10, .inl f25)), (q42, .inl (g.2 0, 10, .inl f43)), (q41, .inl (g.2 0, 10, .inl f43)), (q45, .inl (g.2 0, 60, .inl f25)), (q44, .inl (g.2 0, 60, .inl f25))] H := hP
  have hD : va_D A [(q47, .inl (g.2 0, 20, .inl f48)), (q46, .inl (g.2 0, 20, .inl f48)), (q2, .inr (8, [.ref q18, .ref q30, .ref q44, .ref q46, .int 0, .int 4, .int 0])), (q1, .inr (8, [.ref q10, .ref q29, .ref q45, .ref q47, w7, w8, w9])), (q10, .inr (5, [.ref q24, .ref q27])), (q18, .inr (5, [.ref q21, .ref q26])), (q24, .inl (g.2 0, 384, .inl f25)), (q21, .inl (g.2 0, 384, .inl f25)), (q27, .inl (g.2 0, 40, .inl f28)), (q26, .inl (g.2 0, 40, .inl f28)), (q29, .inr (9, [.ref q40, .ref q42, .int 1, .int 0])), (q30, .inr (9, [.ref q35, .ref q41, .int 1, .int 0])), (q40, .inl (g.2 0, 10, .inl f25)), (q35, .inl (g.2 0, 10, .inl f25)), (q42, .inl (g.2 0, 10, .inl f43)), (q41, .inl (g.2 0, 10, .inl f43)), (q45, .inl (g.2 0, 60, .inl f25)), (q44, .inl (g.2 0, 60, .inl f25))] := hD
  refine lv_aload_n hx hb dX6_copyFrom_33 rfl (lv_at hl 1 rfl) ?_
  refine gf_RX6_29 hx hb hown hE hP 2 rfl rfl dX6_copyFrom_34 ?_
  refine lv_aload_n hx hb dX6_copyFrom_37 rfl (lv_at hl 0 rfl) ?_
  refine gf_RX6_29 hx hb hown hE hP 3 rfl rfl dX6_copyFrom_38 ?_
  refine g_v (wr := [(q2, .inr (8, [.ref q18, .ref q30, .ref q44, .ref q46, .int 0, .int 4, .int 0])), (q1, .inr (8, [.ref q10, .ref q29, .ref q45, .ref q47, w7, w8, w9])), (q10, .inr (5, [.ref q24, .ref q27])), (q18, .inr (5, [.ref q21, .ref q26])), (q24, .inl (g.2 0, 384, .inl f25)), (q21, .inl (g.2 0, 384, .inl f25)), (q27, .inl (g.2 0, 40, .inl f28)), (q26, .inl (g.2 0, 40, .inl f28)), (q29, .inr (9, [.ref q40, .ref q42, .int 1, .int 0])), (q30, .inr (9, [.ref q35, .ref q41, .int 1, .int 0])), (q40, .inl (g.2 0, 10, .inl f25)), (q35, .inl (g.2 0, 10, .inl f25)), (q42, .inl (g.2 0, 10, .inl f43)), (q41, .inl (g.2 0, 10, .inl f43)), (q45, .inl (g.2 0, 60, .inl f25)), (q44, .inl (g.2 0, 60, .inl f25))]) (rSN (rest := []) hx hb hml hown hE hP hD (c125_X9_copyRow l g q46 q47 f48 H.size) (kSN_X9_copyRow hE (e528 hE) rfl rfl ⟨(Nat.le_of_ble_eq_true rfl), (Nat.le_of_ble_eq_true rfl)⟩) [0, 1] rfl (by decide) rfl hl.1 rfl (lv_room (Nat.le_of_ble_eq_true rfl)) dX6_copyFrom_41 ⟨(Nat.le_of_ble_eq_true rfl), (Nat.le_of_ble_eq_true rfl)⟩) hP hD hS hA [0, 1] [2, 3, 4, 5, 6, 7, 8, 9, 10, 11, 12, 13, 14, 15, 16, 17] rfl rfl (by decide) (by decide) (fun u4 H locs hP hD hS => ?_)
  have hP : va_P g.1 vwCl [(q2, .inr (8, [.ref q18, .ref q30, .ref q44, .ref q46, .int 0, .int 4, .int 0])), (q1, .inr (8, [.ref q10, .ref q29, .ref q45, .ref q47, w7, w8, w9])), (q10, .inr (5, [.ref q24, .ref q27])), (q18, .inr (5, [.ref q21, .ref q26])), (q24, .inl (g.2 0, 384, .inl f25)), (q21, .inl (g.2 0, 384, .inl f25)), (q27, .inl (g.2 0, 40, .inl f28)), (q26, .inl (g.2 0, 40, .inl f28)), (q29, .inr (9, [.ref q40, .ref q42, .int 1, .int 0])), (q30, .inr (9, [.ref q35, .ref q41, .int 1, .int 0])), (q40, .inl (g.2 0, 10, .inl f25)), (q35, .inl (g.2 0, 10, .inl f25)), (q42, .inl (g.2 0, 10, .inl f43)), (q41, .inl (g.2 0, 10, .inl f43)), (q45, .inl (g.2 0, 60, .inl f25)), (q44, .inl (g.2 0, 60, .inl f25)), (q47, .inl (g.2 0, 20, .inl f48)), (q46, .inl (g.2 0, 20, .inl f48))] H := hP
  have hD : va_D A [(q2, .inr (8, [.ref q18, .ref q30, .ref q44, .ref q46, .int 0, .int 4, .int 0])), (q1, .inr (8, [.ref q10, .ref q29, .ref q45, .ref q47, w7, w8, w9])), (q10, .inr (5, [.ref q24, .ref q27])), (q18, .inr (5, [.ref q21, .ref q26])), (q24, .inl (g.2 0, 384, .inl f25)), (q21, .inl (g.2 0, 384, .inl f25)), (q27, .inl (g.2 0, 40, .inl f28)), (q26, .inl (g.2 0, 40, .inl f28)), (q29, .inr (9, [.ref q40, .ref q42, .int 1, .int 0])), (q30, .inr (9, [.ref q35, .ref q41, .int 1, .int 0])), (q40, .inl (g.2 0, 10, .inl f25)), (q35, .inl (g.2 0, 10, .inl f25)), (q42, .inl (g.2 0, 10, .inl f43)), (q41, .inl (g.2 0, 10, .inl f43)), (q45, .inl (g.2 0, 60, .inl f25)), (q44, .inl (g.2 0, 60, .inl f25)), (q47, .inl (g.2 0, 20, .inl f48)), (q46, .inl (g.2 0, 20, .inl f48))] := hD
  refine lv_aload_n hx hb dX6_copyFrom_44 rfl (lv_at hl 0 rfl) ?_
  refine lv_aload_n hx hb dX6_copyFrom_45 rfl (lv_at hl 1 rfl) ?_
  refine gf_RX6_37 hx hb hown hE hP 0 rfl rfl dX6_copyFrom_46 ?_
  refine pf_RX6_37 (ws' := [(q2, .inr (8, [.ref q18, .ref q30, .ref q44, .ref q46, .int 0, .int 4, .int 0])), (q1, .inr (8, [.ref q10, .ref q29, .ref q45, .ref q47, .int 0, w8, w9])), (q10, .inr (5, [.ref q24, .ref q27])), (q18, .inr (5, [.ref q21, .ref q26])), (q24, .inl (g.2 0, 384, .inl f25)), (q21, .inl (g.2 0, 384, .inl f25)), (q27, .inl (g.2 0, 40, .inl f28)), (q26, .inl (g.2 0, 40, .inl f28)), (q29, .inr (9, [.ref q40, .ref q42, .int 1, .int 0])), (q30, .inr (9, [.ref q35, .ref q41, .int 1, .int 0])), (q40, .inl (g.2 0, 10, .inl f25)), (q35, .inl (g.2 0, 10, .inl f25)), (q42, .inl (g.2 0, 10, .inl f43)), (q41, .inl (g.2 0, 10, .inl f43)), (q45, .inl (g.2 0, 60, .inl f25)), (q44, .inl (g.2 0, 60, .inl f25)), (q47, .inl (g.2 0, 20, .inl f48)), (q46, .inl (g.2 0, 20, .inl f48))]) hx hb hown hE hP hD hS 1 rfl rfl rfl (Nat.le_of_ble_eq_true rfl) dX6_copyFrom_49 rfl (fun H locs hP hD hS => ?_)
  refine lv_aload_n hx hb dX6_copyFrom_52 rfl (lv_at hl 0 rfl) ?_
  refine lv_aload_n hx hb dX6_copyFrom_53 rfl (lv_at hl 1 rfl) ?_
  refine gf_RX6_41 hx hb hown hE hP 0 rfl rfl dX6_copyFrom_54 ?_
  refine pf_RX6_41 (ws' := [(q2, .inr (8, [.ref q18, .ref q30, .ref q44, .ref q46, .int 0, .int 4, .int 0])), (q1, .inr (8, [.ref q10, .ref q29, .ref q45, .ref q47, .int 0, .int 4, w9])), (q10, .inr (5, [.ref q24, .ref q27])), (q18, .inr (5, [.ref q21, .ref q26])), (q24, .inl (g.2 0, 384, .inl f25)), (q21, .inl (g.2 0, 384, .inl f25)), (q27, .inl (g.2 0, 40, .inl f28)), (q26, .inl (g.2 0, 40, .inl f28)), (q29, .inr (9, [.ref q40, .ref q42, .int 1, .int 0])), (q30, .inr (9, [.ref q35, .ref q41, .int 1, .int 0])), (q40, .inl (g.2 0, 10, .inl f25)), (q35, .inl (g.2 0, 10, .inl f25)), (q42, .inl (g.2 0, 10, .inl f43)), (q41, .inl (g.2 0, 10, .inl f43)), (q45, .inl (g.2 0, 60, .inl f25)), (q44, .inl (g.2 0, 60, .inl f25)), (q47, .inl (g.2 0, 20, .inl f48)), (q46, .inl (g.2 0, 20, .inl f48))]) hx hb hown hE hP hD hS 1 rfl rfl rfl (Nat.le_of_ble_eq_true rfl) dX6_copyFrom_57 rfl (fun H locs hP hD hS => ?_)
  refine lv_aload_n hx hb dX6_copyFrom_60 rfl (lv_at hl 0 rfl) ?_
  refine lv_aload_n hx hb dX6_copyFrom_61 rfl (lv_at hl 1 rfl) ?_
  refine gf_RX6_44 hx hb hown hE hP 0 rfl rfl dX6_copyFrom_62 ?_
  refine pf_RX6_44 (ws' := [(q2, .inr (8, [.ref q18, .ref q30, .ref q44, .ref q46, .int 0, .int 4, .int 0])), (q1, .inr (8, [.ref q10, .ref q29, .ref q45, .ref q47, .int 0, .int 4, .int 0])), (q10, .inr (5, [.ref q24, .ref q27])), (q18, .inr (5, [.ref q21, .ref q26])), (q24, .inl (g.2 0, 384, .inl f25)), (q21, .inl (g.2 0, 384, .inl f25)), (q27, .inl (g.2 0, 40, .inl f28)), (q26, .inl (g.2 0, 40, .inl f28)), (q29, .inr (9, [.ref q40, .ref q42, .int 1, .int 0])), (q30, .inr (9, [.ref q35, .ref q41, .int 1, .int 0])), (q40, .inl (g.2 0, 10, .inl f25)), (q35, .inl (g.2 0, 10, .inl f25)), (q42, .inl (g.2 0, 10, .inl f43)), (q41, .inl (g.2 0, 10, .inl f43)), (q45, .inl (g.2 0, 60, .inl f25)), (q44, .inl (g.2 0, 60, .inl f25)), (q47, .inl (g.2 0, 20, .inl f48)), (q46, .inl (g.2 0, 20, .inl f48))]) hx hb hown hE hP hD hS 1 rfl rfl rfl (Nat.le_of_ble_eq_true rfl) dX6_copyFrom_65 rfl (fun H locs hP hD hS => ?_)
  exact x_vret hx hb hr hlocks hP hD hS hAe hsz (Nat.le_of_ble_eq_true rfl) (Nat.le_of_ble_eq_true rfl) (fun _ => 0) [0, 1, 2, 3, 4, 5, 6, 7, 8, 9, 10, 11, 12, 13, 14, 15, 16, 17] (by decide) rfl dX6_copyFrom_68

set_option maxHeartbeats 4000000 in
set_option maxRecDepth 100000 in
theorem c127_X8_draft (l : Launch) (g : gG) (q1 q5 q8 q10 q18 q26 q29 q32 q34 q35 q37 q38 q43 q48 q49 q50 q52 q53 q54 q55 : Nat) (w4 w15 w16 w17 w46 w47 : Value) (f6 : Nat → Option Nat) (f33 : Nat → Int32) (f36 : Nat → Int32) (f51 : Nat → Int32) (f56 : Nat → Int32) (hf7 : f6 1 = some q8) (hf9 : f6 0 = some q10) (sz : Nat) : Met l yX8_draft [Cond.code yX8_draft cX8_draft 2 (some (.object "PatternSequencer$Song"))] ({ frames := 4, cells := 0, slots := 0, locals := 127 } : Room) (va_Pc [.ref q1] (PX g sz [(q55, .inl (g.2 0, 20, .inl f56)), (q54, .inl (g.2 0, 20, .inl f56)), (q53, .inl (g.2 0, 60, .inl f33)), (q52, .inl (g.2 0, 60, .inl f33)), (q50, .inl (g.2 0, 10, .inl f51)), (q49, .inl (g.2 0, 10, .inl f51)), (q48, .inl (g.2 0, 10, .inl f33)), (q43, .inl (g.2 0, 10, .inl f33)), (q37, .inr (9, [.ref q48, .ref q50, w46, w47])), (q38, .inr (9, [.ref q43, .ref q49, .int 1, .int 0])), (q35, .inl (g.2 0, 40, .inl f36)), (q34, .inl (g.2 0, 40, .inl f36)), (q32, .inl (g.2 0, 384, .inl f33)), (q29, .inl (g.2 0, 384, .inl f33)), (q18, .inr (5, [.ref q32, .ref q35])), (q26, .inr (5, [.ref q29, .ref q34])), (q10, .inr (8, [.ref q26, .ref q38, .ref q52, .ref q54, .int 0, .int 4, .int 0])), (q8, .inr (8, [.ref q18, .ref q37, .ref q53, .ref q55, w15, w16, w17])), (q5, .inl (g.2 3, 10, .inr (.inr (.inr (.inr f6))))), (q1, .inr (10, [.ref q5, .int 0, w4]))])) (QR g [(q55, .inl (g.2 0, 20, .inl f56)), (q54, .inl (g.2 0, 20, .inl f56)), (q53, .inl (g.2 0, 60, .inl f33)), (q52, .inl (g.2 0, 60, .inl f33)), (q50, .inl (g.2 0, 10, .inl f51)), (q49, .inl (g.2 0, 10, .inl f51)), (q48, .inl (g.2 0, 10, .inl f33)), (q43, .inl (g.2 0, 10, .inl f33)), (q37, .inr (9, [.ref q48, .ref q50, w46, w47])), (q38, .inr (9, [.ref q43, .ref q49, .int 1, .int 0])), (q35, .inl (g.2 0, 40, .inl f36)), (q34, .inl (g.2 0, 40, .inl f36)), (q32, .inl (g.2 0, 384, .inl f33)), (q29, .inl (g.2 0, 384, .inl f33)), (q18, .inr (5, [.ref q32, .ref q35])), (q26, .inr (5, [.ref q29, .ref q34])), (q10, .inr (8, [.ref q26, .ref q38, .ref q52, .ref q54, .int 0, .int 4, .int 0])), (q8, .inr (8, [.ref q18, .ref q37, .ref q53, .ref q55, w15, w16, w17])), (q5, .inl (g.2 3, 10, .inr (.inr (.inr (.inr f6))))), (q1, .inr (10, [.ref q5, .int 0, w4]))] sz q8 (fun _ => [(q5, .inl (g.2 3, 10, .inr (.inr (.inr (.inr f6))))), (q1, .inr (10, [.ref q5, .int 0, w4])), (q10, .inr (8, [.ref q26, .ref q38, .ref q52, .ref q54, .int 0, .int 4, .int 0])), (q8, .inr (8, [.ref q18, .ref q37, .ref q53, .ref q55, .int 0, .int 4, .int 0])), (q18, .inr (5, [.ref q32, .ref q35])), (q26, .inr (5, [.ref q29, .ref q34])), (q32, .inl (g.2 0, 384, .inl f33)), (q29, .inl (g.2 0, 384, .inl f33)), (q35, .inl (g.2 0, 40, .inl f36)), (q34, .inl (g.2 0, 40, .inl f36)), (q37, .inr (9, [.ref q48, .ref q50, .int 1, .int 0])), (q38, .inr (9, [.ref q43, .ref q49, .int 1, .int 0])), (q48, .inl (g.2 0, 10, .inl f33)), (q43, .inl (g.2 0, 10, .inl f33)), (q50, .inl (g.2 0, 10, .inl f51)), (q49, .inl (g.2 0, 10, .inl f51)), (q53, .inl (g.2 0, 60, .inl f33)), (q52, .inl (g.2 0, 60, .inl f33)), (q55, .inl (g.2 0, 20, .inl f56)), (q54, .inl (g.2 0, 20, .inl f56))])) 0 0 (va_A [(q55, .inl (g.2 0, 20, .inl f56)), (q54, .inl (g.2 0, 20, .inl f56)), (q53, .inl (g.2 0, 60, .inl f33)), (q52, .inl (g.2 0, 60, .inl f33)), (q50, .inl (g.2 0, 10, .inl f51)), (q49, .inl (g.2 0, 10, .inl f51)), (q48, .inl (g.2 0, 10, .inl f33)), (q43, .inl (g.2 0, 10, .inl f33)), (q37, .inr (9, [.ref q48, .ref q50, w46, w47])), (q38, .inr (9, [.ref q43, .ref q49, .int 1, .int 0])), (q35, .inl (g.2 0, 40, .inl f36)), (q34, .inl (g.2 0, 40, .inl f36)), (q32, .inl (g.2 0, 384, .inl f33)), (q29, .inl (g.2 0, 384, .inl f33)), (q18, .inr (5, [.ref q32, .ref q35])), (q26, .inr (5, [.ref q29, .ref q34])), (q10, .inr (8, [.ref q26, .ref q38, .ref q52, .ref q54, .int 0, .int 4, .int 0])), (q8, .inr (8, [.ref q18, .ref q37, .ref q53, .ref q55, w15, w16, w17])), (q5, .inl (g.2 3, 10, .inr (.inr (.inr (.inr f6))))), (q1, .inr (10, [.ref q5, .int 0, w4]))] sz) := by
  refine ofN (by decide) (Nat.le_of_ble_eq_true rfl) rfl ?_
  intro p e s m args below meth c A ls hAe hsz hx hb hml hr hlocks hin hown hE hP hD hA hS hl
  have hown : s.vm.findClass RX8 = some m.cls := hown
  refine lv_aload_n hx hb dX8_draft_0 rfl (lv_at hl 0 rfl) ?_
  refine gf_RX8_13 hx hb hown hE hP 19 rfl rfl dX8_draft_1 ?_
  refine lv_aload_n hx hb dX8_draft_4 rfl (lv_at hl 0 rfl) ?_
  refine gf_RX8_17 hx hb hown hE hP 19 rfl rfl dX8_draft_5 ?_
  refine lv_iconst (v := 1) hx hb dX8_draft_8 (by decide) ?_
  refine x_iadd (v := 1) hx hb dX8_draft_9 (by decide) ?_
  refine lv_bipush (v := 10) hx hb dX8_draft_10 (by decide) ?_
  refine g0_i (rS (rest := [.ref q5]) hx hb hml hown hE hP hD (c118_J9_floorMod_7cf53 l g s.heap.size) (kS_J9_floorMod_7cf53 hE (e294 hE) rfl rfl ⟨(Nat.le_of_ble_eq_true rfl), (Nat.le_of_ble_eq_true rfl)⟩) [] rfl (by decide) rfl hl.1 rfl (lv_room (Nat.le_of_ble_eq_true rfl)) dX8_draft_12 ⟨(Nat.le_of_ble_eq_true rfl), (Nat.le_of_ble_eq_true rfl)⟩) hP hD hS hA (fun u9 H locs hP hS => ?_)
  refine x_aald (v := q8) hx hb hE hP 18 rfl 1 (x_in (by decide)) (by decide) hf7 dX8_draft_15 ?_
  refine lv_astore_n (lv' := [(1, .ref q8), (0, .ref q1)]) hx hb dX8_draft_16 rfl hl (by decide) rfl (fun ls hl => ?_)
  refine lv_aload_n hx hb dX8_draft_17 rfl (lv_at hl 0 rfl) ?_
  refine lv_aload_n hx hb dX8_draft_18 rfl (lv_at hl 1 rfl) ?_
  refine g_r (wr := [(q55, .inl (g.2 0, 20, .inl f56)), (q54, .inl (g.2 0, 20, .inl f56)), (q53, .inl (g.2 0, 60, .inl f33)), (q52, .inl (g.2 0, 60, .inl f33)), (q50, .inl (g.2 0, 10, .inl f51)), (q49, .inl (g.2 0, 10, .inl f51)), (q48, .inl (g.2 0, 10, .inl f33)), (q43, .inl (g.2 0, 10, .inl f33)), (q37, .inr (9, [.ref q48, .ref q50, w46, w47])), (q38, .inr (9, [.ref q43, .ref q49, .int 1, .int 0])), (q35, .inl (g.2 0, 40, .inl f36)), (q34, .inl (g.2 0, 40, .inl f36)), (q32, .inl (g.2 0, 384, .inl f33)), (q29, .inl (g.2 0, 384, .inl f33)), (q18, .inr (5, [.ref q32, .ref q35])), (q26, .inr (5, [.ref q29, .ref q34])), (q10, .inr (8, [.ref q26, .ref q38, .ref q52, .ref q54, .int 0, .int 4, .int 0])), (q8, .inr (8, [.ref q18, .ref q37, .ref q53, .ref q55, w15, w16, w17]))]) (rV (rest := [.ref q8]) hx hb hml hown hE hP hD 19 rfl rfl (c71_X8_current l g q1 q5 q10 w4 f6 (hf9) H.size) (kV_X8_current hE (e663 hE) rfl rfl ⟨(Nat.le_of_ble_eq_true rfl), (Nat.le_of_ble_eq_true rfl)⟩) [18, 19] rfl (by decide) rfl hl.1 rfl (lv_room (Nat.le_of_ble_eq_true rfl)) dX8_draft_19 ⟨(Nat.le_of_ble_eq_true rfl), (Nat.le_of_ble_eq_true rfl)⟩) hP hD hS hA [18, 19] [0, 1, 2, 3, 4, 5, 6, 7, 8, 9, 10, 11, 12, 13, 14, 15, 16, 17] rfl rfl (by decide) (by decide) (fun u2 H locs hP hD hS => ?_)
  have hP : va_P g.1 vwCl [(q55, .inl (g.2 0, 20, .inl f56)), (q54, .inl (g.2 0, 20, .inl f56)), (q53, .inl (g.2 0, 60, .inl f33)), (q52, .inl (g.2 0, 60, .inl f33)), (q50, .inl (g.2 0, 10, .inl f51)), (q49, .inl (g.2 0, 10, .inl f51)), (q48, .inl (g.2 0, 10, .inl f33)), (q43, .inl (g.2 0, 10, .inl f33)), (q37, .inr (9, [.ref q48, .ref q50, w46, w47])), (q38, .inr (9, [.ref q43, .ref q49, .int 1, .int 0])), (q35, .inl (g.2 0, 40, .inl f36)), (q34, .inl (g.2 0, 40, .inl f36)), (q32, .inl (g.2 0, 384, .inl f33)), (q29, .inl (g.2 0, 384, .inl f33)), (q18, .inr (5, [.ref q32, .ref q35])), (q26, .inr (5, [.ref q29, .ref q34])), (q10, .inr (8, [.ref q26, .ref q38, .ref q52, .ref q54, .int 0, .int 4, .int 0])), (q8, .inr (8, [.ref q18, .ref q37, .ref q53, .ref q55, w15, w16, w17])), (q5, .inl (g.2 3, 10, .inr (.inr (.inr (.inr f6))))), (q1, .inr (10, [.ref q5, .int 0, w4]))] H := hP
  have hD : va_D A [(q55, .inl (g.2 0, 20, .inl f56)), (q54, .inl (g.2 0, 20, .inl f56)), (q53, .inl (g.2 0, 60, .inl f33)), (q52, .inl (g.2 0, 60, .inl f33)), (q50, .inl (g.2 0, 10, .inl f51)), (q49, .inl (g.2 0, 10, .inl f51)), (q48, .inl (g.2 0, 10, .inl f33)), (q43, .inl (g.2 0, 10, .inl f33)), (q37, .inr (9, [.ref q48, .ref q50, w46, w47])), (q38, .inr (9, [.ref q43, .ref q49, .int 1, .int 0])), (q35, .inl (g.2 0, 40, .inl f36)), (q34, .inl (g.2 0, 40, .inl f36)), (q32, .inl (g.2 0, 384, .inl f33)), (q29, .inl (g.2 0, 384, .inl f33)), (q18, .inr (5, [.ref q32, .ref q35])), (q26, .inr (5, [.ref q29, .ref q34])), (q10, .inr (8, [.ref q26, .ref q38, .ref q52, .ref q54, .int 0, .int 4, .int 0])), (q8, .inr (8, [.ref q18, .ref q37, .ref q53, .ref q55, w15, w16, w17])), (q5, .inl (g.2 3, 10, .inr (.inr (.inr (.inr f6))))), (q1, .inr (10, [.ref q5, .int 0, w4]))] := hD
  refine g_v (wr := [(q5, .inl (g.2 3, 10, .inr (.inr (.inr (.inr f6))))), (q1, .inr (10, [.ref q5, .int 0, w4]))]) (rV (rest := []) hx hb hml hown hE hP hD 17 rfl rfl (c126_X6_copyFrom l g q8 q10 q18 q26 q29 q32 q34 q35 q37 q38 q43 q48 q49 q50 q52 q53 q54 q55 w15 w16 w17 w46 w47 f33 f36 f51 f56 H.size) (kV_X6_copyFrom hE (e664 hE) rfl rfl ⟨(Nat.le_of_ble_eq_true rfl), (Nat.le_of_ble_eq_true rfl)⟩) [0, 1, 2, 3, 4, 5, 6, 7, 8, 9, 10, 11, 12, 13, 14, 15, 16, 17] rfl (by decide) rfl hl.1 rfl (lv_room (Nat.le_of_ble_eq_true rfl)) dX8_draft_22 ⟨(Nat.le_of_ble_eq_true rfl), (Nat.le_of_ble_eq_true rfl)⟩) hP hD hS hA [0, 1, 2, 3, 4, 5, 6, 7, 8, 9, 10, 11, 12, 13, 14, 15, 16, 17] [18, 19] rfl rfl (by decide) (by decide) (fun u3 H locs hP hD hS => ?_)
  have hP : va_P g.1 vwCl [(q5, .inl (g.2 3, 10, .inr (.inr (.inr (.inr f6))))), (q1, .inr (10, [.ref q5, .int 0, w4])), (q10, .inr (8, [.ref q26, .ref q38, .ref q52, .ref q54, .int 0, .int 4, .int 0])), (q8, .inr (8, [.ref q18, .ref q37, .ref q53, .ref q55, .int 0, .int 4, .int 0])), (q18, .inr (5, [.ref q32, .ref q35])), (q26, .inr (5, [.ref q29, .ref q34])), (q32, .inl (g.2 0, 384, .inl f33)), (q29, .inl (g.2 0, 384, .inl f33)), (q35, .inl (g.2 0, 40, .inl f36)), (q34, .inl (g.2 0, 40, .inl f36)), (q37, .inr (9, [.ref q48, .ref q50, .int 1, .int 0])), (q38, .inr (9, [.ref q43, .ref q49, .int 1, .int 0])), (q48, .inl (g.2 0, 10, .inl f33)), (q43, .inl (g.2 0, 10, .inl f33)), (q50, .inl (g.2 0, 10, .inl f51)), (q49, .inl (g.2 0, 10, .inl f51)), (q53, .inl (g.2 0, 60, .inl f33)), (q52, .inl (g.2 0, 60, .inl f33)), (q55, .inl (g.2 0, 20, .inl f56)), (q54, .inl (g.2 0, 20, .inl f56))] H := hP
  have hD : va_D A [(q5, .inl (g.2 3, 10, .inr (.inr (.inr (.inr f6))))), (q1, .inr (10, [.ref q5, .int 0, w4])), (q10, .inr (8, [.ref q26, .ref q38, .ref q52, .ref q54, .int 0, .int 4, .int 0])), (q8, .inr (8, [.ref q18, .ref q37, .ref q53, .ref q55, .int 0, .int 4, .int 0])), (q18, .inr (5, [.ref q32, .ref q35])), (q26, .inr (5, [.ref q29, .ref q34])), (q32, .inl (g.2 0, 384, .inl f33)), (q29, .inl (g.2 0, 384, .inl f33)), (q35, .inl (g.2 0, 40, .inl f36)), (q34, .inl (g.2 0, 40, .inl f36)), (q37, .inr (9, [.ref q48, .ref q50, .int 1, .int 0])), (q38, .inr (9, [.ref q43, .ref q49, .int 1, .int 0])), (q48, .inl (g.2 0, 10, .inl f33)), (q43, .inl (g.2 0, 10, .inl f33)), (q50, .inl (g.2 0, 10, .inl f51)), (q49, .inl (g.2 0, 10, .inl f51)), (q53, .inl (g.2 0, 60, .inl f33)), (q52, .inl (g.2 0, 60, .inl f33)), (q55, .inl (g.2 0, 20, .inl f56)), (q54, .inl (g.2 0, 20, .inl f56))] := hD
  refine lv_aload_n hx hb dX8_draft_25 rfl (lv_at hl 0 rfl) ?_
  exact x_aret hx hb hr (Or.inl ⟨_, rfl⟩) hlocks hP hD hS hAe hsz (Nat.le_of_ble_eq_true rfl) (Nat.le_of_ble_eq_true rfl) (fun _ => 0) [0, 1, 2, 3, 4, 5, 6, 7, 8, 9, 10, 11, 12, 13, 14, 15, 16, 17, 18, 19] (by decide) rfl dX8_draft_26

set_option maxHeartbeats 4000000 in
set_option maxRecDepth 100000 in
theorem c128_X3_figure (l : Launch) (g : gG) (q1 q4 : Nat) (w2 : Value) (f5 : Nat → Int32) (hf6 : f5 0 = 0) (sz : Nat) : Met l yX3_figure [Cond.code yX3_figure cX3_figure 4 (some .int)] ({ frames := 0, cells := 0, slots := 0, locals := 0 } : Room) (va_Pc [.ref q1, .int 0, .int 0] (PX g sz [(q4, .inl (g.2 0, 40, .inl f5)), (q1, .inr (5, [w2, .ref q4]))])) (QI g [(q4, .inl (g.2 0, 40, .inl f5)), (q1, .inr (5, [w2, .ref q4]))] sz 0 (fun _ => [(q4, .inl (g.2 0, 40, .inl f5)), (q1, .inr (5, [w2, .ref q4]))])) 0 0 (va_A [(q4, .inl (g.2 0, 40, .inl f5)), (q1, .inr (5, [w2, .ref q4]))] sz) := by
  refine ofN (by decide) (Nat.le_of_ble_eq_true rfl) rfl ?_
  intro p e s m args below meth c A ls hAe hsz hx hb hml hr hlocks hin hown hE hP hD hA hS hl
  have hown : s.vm.findClass RX3 = some m.cls := hown
  refine lv_iload_n hx hb dX3_figure_0 rfl (lv_at hl 1 rfl) ?_
  refine lv_iconst (v := 5) hx hb dX3_figure_1 (by decide) ?_
  refine x_imul (v := 0) hx hb dX3_figure_2 (by decide) ?_
  refine lv_iload_n hx hb dX3_figure_3 rfl (lv_at hl 2 rfl) ?_
  refine x_iadd (v := 0) hx hb dX3_figure_4 (by decide) ?_
  refine lv_istore_n (lv' := [(3, .int 0), (0, .ref q1), (1, .int 0), (2, .int 0)]) hx hb dX3_figure_5 rfl hl (by decide) rfl (fun ls hl => ?_)
  refine lv_iload_n hx hb dX3_figure_6 rfl (lv_at hl 0 rfl) ?_
  refine lv_if_lt (tgt := 28) hx hb dX3_figure_7 (by decide) (fun h => absurd h (by decide)) (fun _ => ?_)
  refine lv_iload_n hx hb dX3_figure_10 rfl (lv_at hl 0 rfl) ?_
  refine lv_aload_n hx hb dX3_figure_11 rfl (lv_at hl 1 rfl) ?_
  refine gf_RX3_15 hx hb hown hE hP 1 rfl rfl dX3_figure_12 ?_
  refine x_aleni (v := 40) hx hb hE hP 0 rfl rfl dX3_figure_15 ?_
  refine lv_icmp_ge (tgt := 28) hx hb dX3_figure_16 (by decide) (fun h => absurd h (by decide)) (fun _ => ?_)
  refine lv_aload_n hx hb dX3_figure_19 rfl (lv_at hl 1 rfl) ?_
  refine gf_RX3_15 hx hb hown hE hP 1 rfl rfl dX3_figure_20 ?_
  refine lv_iload_n hx hb dX3_figure_23 rfl (lv_at hl 0 rfl) ?_
  refine x_iald (v := 0) hx hb hE hP 0 rfl 0 (x_in (by decide)) (by decide) hf6 dX3_figure_24 ?_
  refine lv_goto (tgt := 29) hx hb dX3_figure_25 (by decide) ?_
  exact x_zret hx hb hr rfl rfl hlocks hP hD hS hAe hsz (Nat.le_of_ble_eq_true rfl) (Nat.le_of_ble_eq_true rfl) (fun _ => 0) [0, 1] (by decide) rfl dX3_figure_29

set_option maxHeartbeats 4000000 in
set_option maxRecDepth 100000 in
theorem c129_X9_putAt (l : Launch) (g : gG) (q1 : Nat) (f2 : Nat → Int32) (hf3 : f2 0 = 0) (sz : Nat) : Met l yX9_putAt [Cond.code yX9_putAt cX9_putAt 3 none] ({ frames := 0, cells := 0, slots := 0, locals := 0 } : Room) (va_Pc [.ref q1, .int 0, .int 0] (PX g sz [(q1, .inl (g.2 0, 384, .inl f2))])) (QV g [(q1, .inl (g.2 0, 384, .inl f2))] sz (fun _ => [(q1, .inl (g.2 0, 384, .inl f2))])) 0 0 (va_A [(q1, .inl (g.2 0, 384, .inl f2))] sz) := by
  refine ofN (by decide) (Nat.le_of_ble_eq_true rfl) rfl ?_
  intro p e s m args below meth c A ls hAe hsz hx hb hml hr hlocks hin hown hE hP hD hA hS hl
  have hown : s.vm.findClass RX9 = some m.cls := hown
  refine lv_iload_n hx hb dX9_putAt_0 rfl (lv_at hl 1 rfl) ?_
  refine lv_if_lt (tgt := 14) hx hb dX9_putAt_1 (by decide) (fun h => absurd h (by decide)) (fun _ => ?_)
  refine lv_iload_n hx hb dX9_putAt_4 rfl (lv_at hl 1 rfl) ?_
  refine lv_aload_n hx hb dX9_putAt_5 rfl (lv_at hl 0 rfl) ?_
  refine x_aleni (v := 384) hx hb hE hP 0 rfl rfl dX9_putAt_6 ?_
  refine lv_icmp_ge (tgt := 14) hx hb dX9_putAt_7 (by decide) (fun h => absurd h (by decide)) (fun _ => ?_)
  refine lv_aload_n hx hb dX9_putAt_10 rfl (lv_at hl 0 rfl) ?_
  refine lv_iload_n hx hb dX9_putAt_11 rfl (lv_at hl 1 rfl) ?_
  refine lv_iload_n hx hb dX9_putAt_12 rfl (lv_at hl 2 rfl) ?_
  refine x_iast_same hx hb hE hP hD hS 0 rfl 0 (x_in (by decide)) (by decide) hf3 dX9_putAt_13 (fun H locs hP hD hS => ?_)
  exact x_vret hx hb hr hlocks hP hD hS hAe hsz (Nat.le_of_ble_eq_true rfl) (Nat.le_of_ble_eq_true rfl) (fun _ => 0) [0] (by decide) rfl dX9_putAt_14

set_option maxHeartbeats 4000000 in
set_option maxRecDepth 100000 in
theorem c130_X9_putAt (l : Launch) (g : gG) (q1 : Nat) (x2 : Int32) (f3 : Nat → Int32) (sz : Nat) : Met l yX9_putAt [Cond.code yX9_putAt cX9_putAt 3 none] ({ frames := 0, cells := 0, slots := 0, locals := 0 } : Room) (va_Pc [.ref q1, .int 1, .int x2] (PX g sz [(q1, .inl (g.2 0, 384, .inl f3))])) (QV g [(q1, .inl (g.2 0, 384, .inl f3))] sz (fun _ => [(q1, .inl (g.2 0, 384, .inl (upd f3 1 x2)))])) 0 0 (va_A [(q1, .inl (g.2 0, 384, .inl f3))] sz) := by
  refine ofN (by decide) (Nat.le_of_ble_eq_true rfl) rfl ?_
  intro p e s m args below meth c A ls hAe hsz hx hb hml hr hlocks hin hown hE hP hD hA hS hl
  have hown : s.vm.findClass RX9 = some m.cls := hown
  refine lv_iload_n hx hb dX9_putAt_0 rfl (lv_at hl 1 rfl) ?_
  refine lv_if_lt (tgt := 14) hx hb dX9_putAt_1 (by decide) (fun h => absurd h (by decide)) (fun _ => ?_)
  refine lv_iload_n hx hb dX9_putAt_4 rfl (lv_at hl 1 rfl) ?_
  refine lv_aload_n hx hb dX9_putAt_5 rfl (lv_at hl 0 rfl) ?_
  refine x_aleni (v := 384) hx hb hE hP 0 rfl rfl dX9_putAt_6 ?_
  refine lv_icmp_ge (tgt := 14) hx hb dX9_putAt_7 (by decide) (fun h => absurd h (by decide)) (fun _ => ?_)
  refine lv_aload_n hx hb dX9_putAt_10 rfl (lv_at hl 0 rfl) ?_
  refine lv_iload_n hx hb dX9_putAt_11 rfl (lv_at hl 1 rfl) ?_
  refine lv_iload_n hx hb dX9_putAt_12 rfl (lv_at hl 2 rfl) ?_
  refine x_iast (ws' := [(q1, .inl (g.2 0, 384, .inl (upd f3 1 x2)))]) hx hb hE hP hD hS 0 rfl 1 (x_in (by decide)) (by decide) dX9_putAt_13 rfl (fun H locs hP hD hS => ?_)
  exact x_vret hx hb hr hlocks hP hD hS hAe hsz (Nat.le_of_ble_eq_true rfl) (Nat.le_of_ble_eq_true rfl) (fun _ => 0) [0] (by decide) rfl dX9_putAt_14

set_option maxHeartbeats 4000000 in
set_option maxRecDepth 100000 in
theorem c131_X9_putAt (l : Launch) (g : gG) (q1 : Nat) (x2 : Int32) (f3 : Nat → Int32) (sz : Nat) : Met l yX9_putAt [Cond.code yX9_putAt cX9_putAt 3 none] ({ frames := 0, cells := 0, slots := 0, locals := 0 } : Room) (va_Pc [.ref q1, .int 2, .int x2] (PX g sz [(q1, .inl (g.2 0, 384, .inl f3))])) (QV g [(q1, .inl (g.2 0, 384, .inl f3))] sz (fun _ => [(q1, .inl (g.2 0, 384, .inl (upd f3 2 x2)))])) 0 0 (va_A [(q1, .inl (g.2 0, 384, .inl f3))] sz) := by
  refine ofN (by decide) (Nat.le_of_ble_eq_true rfl) rfl ?_
  intro p e s m args below meth c A ls hAe hsz hx hb hml hr hlocks hin hown hE hP hD hA hS hl
  have hown : s.vm.findClass RX9 = some m.cls := hown
  refine lv_iload_n hx hb dX9_putAt_0 rfl (lv_at hl 1 rfl) ?_
  refine lv_if_lt (tgt := 14) hx hb dX9_putAt_1 (by decide) (fun h => absurd h (by decide)) (fun _ => ?_)
  refine lv_iload_n hx hb dX9_putAt_4 rfl (lv_at hl 1 rfl) ?_
  refine lv_aload_n hx hb dX9_putAt_5 rfl (lv_at hl 0 rfl) ?_
  refine x_aleni (v := 384) hx hb hE hP 0 rfl rfl dX9_putAt_6 ?_
  refine lv_icmp_ge (tgt := 14) hx hb dX9_putAt_7 (by decide) (fun h => absurd h (by decide)) (fun _ => ?_)
  refine lv_aload_n hx hb dX9_putAt_10 rfl (lv_at hl 0 rfl) ?_
  refine lv_iload_n hx hb dX9_putAt_11 rfl (lv_at hl 1 rfl) ?_
  refine lv_iload_n hx hb dX9_putAt_12 rfl (lv_at hl 2 rfl) ?_
  refine x_iast (ws' := [(q1, .inl (g.2 0, 384, .inl (upd f3 2 x2)))]) hx hb hE hP hD hS 0 rfl 2 (x_in (by decide)) (by decide) dX9_putAt_13 rfl (fun H locs hP hD hS => ?_)
  exact x_vret hx hb hr hlocks hP hD hS hAe hsz (Nat.le_of_ble_eq_true rfl) (Nat.le_of_ble_eq_true rfl) (fun _ => 0) [0] (by decide) rfl dX9_putAt_14

set_option maxHeartbeats 4000000 in
set_option maxRecDepth 100000 in
theorem c132_X9_putAt (l : Launch) (g : gG) (q1 : Nat) (x2 : Int32) (f3 : Nat → Int32) (sz : Nat) : Met l yX9_putAt [Cond.code yX9_putAt cX9_putAt 3 none] ({ frames := 0, cells := 0, slots := 0, locals := 0 } : Room) (va_Pc [.ref q1, .int 3, .int x2] (PX g sz [(q1, .inl (g.2 0, 384, .inl f3))])) (QV g [(q1, .inl (g.2 0, 384, .inl f3))] sz (fun _ => [(q1, .inl (g.2 0, 384, .inl (upd f3 3 x2)))])) 0 0 (va_A [(q1, .inl (g.2 0, 384, .inl f3))] sz) := by
  refine ofN (by decide) (Nat.le_of_ble_eq_true rfl) rfl ?_
  intro p e s m args below meth c A ls hAe hsz hx hb hml hr hlocks hin hown hE hP hD hA hS hl
  have hown : s.vm.findClass RX9 = some m.cls := hown
  refine lv_iload_n hx hb dX9_putAt_0 rfl (lv_at hl 1 rfl) ?_
  refine lv_if_lt (tgt := 14) hx hb dX9_putAt_1 (by decide) (fun h => absurd h (by decide)) (fun _ => ?_)
  refine lv_iload_n hx hb dX9_putAt_4 rfl (lv_at hl 1 rfl) ?_
  refine lv_aload_n hx hb dX9_putAt_5 rfl (lv_at hl 0 rfl) ?_
  refine x_aleni (v := 384) hx hb hE hP 0 rfl rfl dX9_putAt_6 ?_
  refine lv_icmp_ge (tgt := 14) hx hb dX9_putAt_7 (by decide) (fun h => absurd h (by decide)) (fun _ => ?_)
  refine lv_aload_n hx hb dX9_putAt_10 rfl (lv_at hl 0 rfl) ?_
  refine lv_iload_n hx hb dX9_putAt_11 rfl (lv_at hl 1 rfl) ?_
  refine lv_iload_n hx hb dX9_putAt_12 rfl (lv_at hl 2 rfl) ?_
  refine x_iast (ws' := [(q1, .inl (g.2 0, 384, .inl (upd f3 3 x2)))]) hx hb hE hP hD hS 0 rfl 3 (x_in (by decide)) (by decide) dX9_putAt_13 rfl (fun H locs hP hD hS => ?_)
  exact x_vret hx hb hr hlocks hP hD hS hAe hsz (Nat.le_of_ble_eq_true rfl) (Nat.le_of_ble_eq_true rfl) (fun _ => 0) [0] (by decide) rfl dX9_putAt_14

set_option maxHeartbeats 4000000 in
set_option maxRecDepth 100000 in
theorem c133_X3_putFigure (l : Launch) (g : gG) (q1 q4 : Nat) (w2 : Value) (f5 : Nat → Int32) (sz : Nat) : Met l yX3_putFigure [Cond.code yX3_putFigure cX3_putFigure 5 none] ({ frames := 0, cells := 0, slots := 0, locals := 0 } : Room) (va_Pc [.ref q1, .int 0, .int 0, .int 1] (PX g sz [(q4, .inl (g.2 0, 40, .inl f5)), (q1, .inr (5, [w2, .ref q4]))])) (QV g [(q4, .inl (g.2 0, 40, .inl f5)), (q1, .inr (5, [w2, .ref q4]))] sz (fun _ => [(q4, .inl (g.2 0, 40, .inl (upd f5 0 1))), (q1, .inr (5, [w2, .ref q4]))])) 0 0 (va_A [(q4, .inl (g.2 0, 40, .inl f5)), (q1, .inr (5, [w2, .ref q4]))] sz) := by
  refine ofN (by decide) (Nat.le_of_ble_eq_true rfl) rfl ?_
  intro p e s m args below meth c A ls hAe hsz hx hb hml hr hlocks hin hown hE hP hD hA hS hl
  have hown : s.vm.findClass RX3 = some m.cls := hown
  refine lv_iload_n hx hb dX3_putFigure_0 rfl (lv_at hl 1 rfl) ?_
  refine lv_iconst (v := 5) hx hb dX3_putFigure_1 (by decide) ?_
  refine x_imul (v := 0) hx hb dX3_putFigure_2 (by decide) ?_
  refine lv_iload_n hx hb dX3_putFigure_3 rfl (lv_at hl 2 rfl) ?_
  refine x_iadd (v := 0) hx hb dX3_putFigure_4 (by decide) ?_
  refine lv_istore (lv' := [(4, .int 0), (0, .ref q1), (1, .int 0), (2, .int 0), (3, .int 1)]) hx hb dX3_putFigure_5 hl (by decide) rfl (fun ls hl => ?_)
  refine lv_iload hx hb dX3_putFigure_7 (lv_at hl 0 rfl) ?_
  refine lv_if_lt (tgt := 30) hx hb dX3_putFigure_9 (by decide) (fun h => absurd h (by decide)) (fun _ => ?_)
  refine lv_iload hx hb dX3_putFigure_12 (lv_at hl 0 rfl) ?_
  refine lv_aload_n hx hb dX3_putFigure_14 rfl (lv_at hl 1 rfl) ?_
  refine gf_RX3_15 hx hb hown hE hP 1 rfl rfl dX3_putFigure_15 ?_
  refine x_aleni (v := 40) hx hb hE hP 0 rfl rfl dX3_putFigure_18 ?_
  refine lv_icmp_ge (tgt := 30) hx hb dX3_putFigure_19 (by decide) (fun h => absurd h (by decide)) (fun _ => ?_)
  refine lv_aload_n hx hb dX3_putFigure_22 rfl (lv_at hl 1 rfl) ?_
  refine gf_RX3_15 hx hb hown hE hP 1 rfl rfl dX3_putFigure_23 ?_
  refine lv_iload hx hb dX3_putFigure_26 (lv_at hl 0 rfl) ?_
  refine lv_iload_n hx hb dX3_putFigure_28 rfl (lv_at hl 4 rfl) ?_
  refine x_iast (ws' := [(q4, .inl (g.2 0, 40, .inl (upd f5 0 1))), (q1, .inr (5, [w2, .ref q4]))]) hx hb hE hP hD hS 0 rfl 0 (x_in (by decide)) (by decide) dX3_putFigure_29 rfl (fun H locs hP hD hS => ?_)
  exact x_vret hx hb hr hlocks hP hD hS hAe hsz (Nat.le_of_ble_eq_true rfl) (Nat.le_of_ble_eq_true rfl) (fun _ => 0) [0, 1] (by decide) rfl dX3_putFigure_30

set_option maxHeartbeats 4000000 in
set_option maxRecDepth 100000 in
theorem c134_X3_putItem (l : Launch) (g : gG) (q1 q7 q10 : Nat) (x2 x3 x4 : Int32) (f8 : Nat → Int32) (f11 : Nat → Int32) (hf9 : f8 0 = 0) (hf12 : f11 0 = 0) (sz : Nat) : Met l yX3_putItem [Cond.code yX3_putItem cX3_putItem 8 none] ({ frames := 1, cells := 0, slots := 0, locals := 24 } : Room) (va_Pc [.ref q1, .int 0, .int 0, .int x2, .int x3, .int x4] (PX g sz [(q10, .inl (g.2 0, 384, .inl f11)), (q7, .inl (g.2 0, 40, .inl f8)), (q1, .inr (5, [.ref q10, .ref q7]))])) (QV g [(q10, .inl (g.2 0, 384, .inl f11)), (q7, .inl (g.2 0, 40, .inl f8)), (q1, .inr (5, [.ref q10, .ref q7]))] sz (fun _ => [(q10, .inl (g.2 0, 384, .inl (upd (upd (upd f11 1 x2) 2 x3) 3 x4))), (q7, .inl (g.2 0, 40, .inl (upd f8 0 1))), (q1, .inr (5, [.ref q10, .ref q7]))])) 0 0 (va_A [(q10, .inl (g.2 0, 384, .inl f11)), (q7, .inl (g.2 0, 40, .inl f8)), (q1, .inr (5, [.ref q10, .ref q7]))] sz) := by
  refine ofN (by decide) (Nat.le_of_ble_eq_true rfl) rfl ?_
  intro p e s m args below meth c A ls hAe hsz hx hb hml hr hlocks hin hown hE hP hD hA hS hl
  have hown : s.vm.findClass RX3 = some m.cls := hown
  refine lv_aload_n hx hb dX3_putItem_0 rfl (lv_at hl 0 rfl) ?_
  refine lv_iload_n hx hb dX3_putItem_1 rfl (lv_at hl 1 rfl) ?_
  refine lv_iconst (v := 0) hx hb dX3_putItem_2 (by decide) ?_
  refine g_i (wr := [(q10, .inl (g.2 0, 384, .inl f11))]) (rV (rest := []) hx hb hml hown hE hP hD 2 rfl rfl (c128_X3_figure l g q1 q7 (.ref q10) f8 (hf9) s.heap.size) (kV_X3_figure hE (e343 hE) rfl rfl ⟨(Nat.le_of_ble_eq_true rfl), (Nat.le_of_ble_eq_true rfl)⟩) [1, 2] rfl (by decide) rfl hl.1 rfl (lv_room (Nat.le_of_ble_eq_true rfl)) dX3_putItem_3 ⟨(Nat.le_of_ble_eq_true rfl), (Nat.le_of_ble_eq_true rfl)⟩) hP hD hS hA [1, 2] [0] rfl rfl (by decide) (by decide) (fun u1 H locs hP hD hS => ?_)
  have hP : va_P g.1 vwCl [(q10, .inl (g.2 0, 384, .inl f11)), (q7, .inl (g.2 0, 40, .inl f8)), (q1, .inr (5, [.ref q10, .ref q7]))] H := hP
  have hD : va_D A [(q10, .inl (g.2 0, 384, .inl f11)), (q7, .inl (g.2 0, 40, .inl f8)), (q1, .inr (5, [.ref q10, .ref q7]))] := hD
  refine lv_istore (lv' := [(6, .int 0), (0, .ref q1), (1, .int 0), (2, .int 0), (3, .int x2), (4, .int x3), (5, .int x4)]) hx hb dX3_putItem_6 hl (by decide) rfl (fun ls hl => ?_)
  refine lv_iload_n hx hb dX3_putItem_8 rfl (lv_at hl 2 rfl) ?_
  refine lv_bipush (v := 12) hx hb dX3_putItem_9 (by decide) ?_
  refine x_imul (v := 0) hx hb dX3_putItem_11 (by decide) ?_
  refine lv_iload hx hb dX3_putItem_12 (lv_at hl 0 rfl) ?_
  refine x_iadd (v := 0) hx hb dX3_putItem_14 (by decide) ?_
  refine lv_iconst (v := 4) hx hb dX3_putItem_15 (by decide) ?_
  refine x_imul (v := 0) hx hb dX3_putItem_16 (by decide) ?_
  refine lv_istore (lv' := [(7, .int 0), (6, .int 0), (0, .ref q1), (1, .int 0), (2, .int 0), (3, .int x2), (4, .int x3), (5, .int x4)]) hx hb dX3_putItem_17 hl (by decide) rfl (fun ls hl => ?_)
  refine lv_aload_n hx hb dX3_putItem_19 rfl (lv_at hl 2 rfl) ?_
  refine gf_RX3_9 hx hb hown hE hP 2 rfl rfl dX3_putItem_20 ?_
  refine lv_iload hx hb dX3_putItem_23 (lv_at hl 0 rfl) ?_
  refine lv_iconst (v := 0) hx hb dX3_putItem_25 (by decide) ?_
  refine x_iadd (v := 0) hx hb dX3_putItem_26 (by decide) ?_
  refine lv_iload_n hx hb dX3_putItem_27 rfl (lv_at hl 4 rfl) ?_
  refine g_v (wr := [(q7, .inl (g.2 0, 40, .inl f8)), (q1, .inr (5, [.ref q10, .ref q7]))]) (rSN (rest := []) hx hb hml hown hE hP hD (c129_X9_putAt l g q10 f11 (hf12) H.size) (kSN_X9_putAt hE (e689 hE) rfl rfl ⟨(Nat.le_of_ble_eq_true rfl), (Nat.le_of_ble_eq_true rfl)⟩) [0] rfl (by decide) rfl hl.1 rfl (lv_room (Nat.le_of_ble_eq_true rfl)) dX3_putItem_28 ⟨(Nat.le_of_ble_eq_true rfl), (Nat.le_of_ble_eq_true rfl)⟩) hP hD hS hA [0] [1, 2] rfl rfl (by decide) (by decide) (fun u2 H locs hP hD hS => ?_)
  have hP : va_P g.1 vwCl [(q7, .inl (g.2 0, 40, .inl f8)), (q1, .inr (5, [.ref q10, .ref q7])), (q10, .inl (g.2 0, 384, .inl f11))] H := hP
  have hD : va_D A [(q7, .inl (g.2 0, 40, .inl f8)), (q1, .inr (5, [.ref q10, .ref q7])), (q10, .inl (g.2 0, 384, .inl f11))] := hD
  refine lv_aload_n hx hb dX3_putItem_31 rfl (lv_at hl 2 rfl) ?_
  refine gf_RX3_9 hx hb hown hE hP 1 rfl rfl dX3_putItem_32 ?_
  refine lv_iload hx hb dX3_putItem_35 (lv_at hl 0 rfl) ?_
  refine lv_iconst (v := 1) hx hb dX3_putItem_37 (by decide) ?_
  refine x_iadd (v := 1) hx hb dX3_putItem_38 (by decide) ?_
  refine lv_iload_n hx hb dX3_putItem_39 rfl (lv_at hl 5 rfl) ?_
  refine g_v (wr := [(q7, .inl (g.2 0, 40, .inl f8)), (q1, .inr (5, [.ref q10, .ref q7]))]) (rSN (rest := []) hx hb hml hown hE hP hD (c130_X9_putAt l g q10 x2 f11 H.size) (kSN_X9_putAt hE (e689 hE) rfl rfl ⟨(Nat.le_of_ble_eq_true rfl), (Nat.le_of_ble_eq_true rfl)⟩) [2] rfl (by decide) rfl hl.1 rfl (lv_room (Nat.le_of_ble_eq_true rfl)) dX3_putItem_40 ⟨(Nat.le_of_ble_eq_true rfl), (Nat.le_of_ble_eq_true rfl)⟩) hP hD hS hA [2] [0, 1] rfl rfl (by decide) (by decide) (fun u3 H locs hP hD hS => ?_)
  have hP : va_P g.1 vwCl [(q7, .inl (g.2 0, 40, .inl f8)), (q1, .inr (5, [.ref q10, .ref q7])), (q10, .inl (g.2 0, 384, .inl (upd f11 1 x2)))] H := hP
  have hD : va_D A [(q7, .inl (g.2 0, 40, .inl f8)), (q1, .inr (5, [.ref q10, .ref q7])), (q10, .inl (g.2 0, 384, .inl (upd f11 1 x2)))] := hD
  refine lv_aload_n hx hb dX3_putItem_43 rfl (lv_at hl 2 rfl) ?_
  refine gf_RX3_9 hx hb hown hE hP 1 rfl rfl dX3_putItem_44 ?_
  refine lv_iload hx hb dX3_putItem_47 (lv_at hl 0 rfl) ?_
  refine lv_iconst (v := 2) hx hb dX3_putItem_49 (by decide) ?_
  refine x_iadd (v := 2) hx hb dX3_putItem_50 (by decide) ?_
  refine lv_iload hx hb dX3_putItem_51 (lv_at hl 6 rfl) ?_
  refine g_v (wr := [(q7, .inl (g.2 0, 40, .inl f8)), (q1, .inr (5, [.ref q10, .ref q7]))]) (rSN (rest := []) hx hb hml hown hE hP hD (c131_X9_putAt l g q10 x3 (upd f11 1 x2) H.size) (kSN_X9_putAt hE (e689 hE) rfl rfl ⟨(Nat.le_of_ble_eq_true rfl), (Nat.le_of_ble_eq_true rfl)⟩) [2] rfl (by decide) rfl hl.1 rfl (lv_room (Nat.le_of_ble_eq_true rfl)) dX3_putItem_53 ⟨(Nat.le_of_ble_eq_true rfl), (Nat.le_of_ble_eq_true rfl)⟩) hP hD hS hA [2] [0, 1] rfl rfl (by decide) (by decide) (fun u4 H locs hP hD hS => ?_)
  have hP : va_P g.1 vwCl [(q7, .inl (g.2 0, 40, .inl f8)), (q1, .inr (5, [.ref q10, .ref q7])), (q10, .inl (g.2 0, 384, .inl (upd (upd f11 1 x2) 2 x3)))] H := hP
  have hD : va_D A [(q7, .inl (g.2 0, 40, .inl f8)), (q1, .inr (5, [.ref q10, .ref q7])), (q10, .inl (g.2 0, 384, .inl (upd (upd f11 1 x2) 2 x3)))] := hD
  refine lv_aload_n hx hb dX3_putItem_56 rfl (lv_at hl 2 rfl) ?_
  refine gf_RX3_9 hx hb hown hE hP 1 rfl rfl dX3_putItem_57 ?_
  refine lv_iload hx hb dX3_putItem_60 (lv_at hl 0 rfl) ?_
  refine lv_iconst (v := 3) hx hb dX3_putItem_62 (by decide) ?_
  refine x_iadd (v := 3) hx hb dX3_putItem_63 (by decide) ?_
  refine lv_iload hx hb dX3_putItem_64 (lv_at hl 7 rfl) ?_
  refine g_v (wr := [(q7, .inl (g.2 0, 40, .inl f8)), (q1, .inr (5, [.ref q10, .ref q7]))]) (rSN (rest := []) hx hb hml hown hE hP hD (c132_X9_putAt l g q10 x4 (upd (upd f11 1 x2) 2 x3) H.size) (kSN_X9_putAt hE (e689 hE) rfl rfl ⟨(Nat.le_of_ble_eq_true rfl), (Nat.le_of_ble_eq_true rfl)⟩) [2] rfl (by decide) rfl hl.1 rfl (lv_room (Nat.le_of_ble_eq_true rfl)) dX3_putItem_66 ⟨(Nat.le_of_ble_eq_true rfl), (Nat.le_of_ble_eq_true rfl)⟩) hP hD hS hA [2] [0, 1] rfl rfl (by decide) (by decide) (fun u5 H locs hP hD hS => ?_)
  have hP : va_P g.1 vwCl [(q7, .inl (g.2 0, 40, .inl f8)), (q1, .inr (5, [.ref q10, .ref q7])), (q10, .inl (g.2 0, 384, .inl (upd (upd (upd f11 1 x2) 2 x3) 3 x4)))] H := hP
  have hD : va_D A [(q7, .inl (g.2 0, 40, .inl f8)), (q1, .inr (5, [.ref q10, .ref q7])), (q10, .inl (g.2 0, 384, .inl (upd (upd (upd f11 1 x2) 2 x3) 3 x4)))] := hD
  refine lv_aload_n hx hb dX3_putItem_69 rfl (lv_at hl 2 rfl) ?_
  refine lv_iload_n hx hb dX3_putItem_70 rfl (lv_at hl 3 rfl) ?_
  refine lv_iconst (v := 0) hx hb dX3_putItem_71 (by decide) ?_
  refine lv_iload hx hb dX3_putItem_72 (lv_at hl 1 rfl) ?_
  refine lv_iconst (v := 1) hx hb dX3_putItem_74 (by decide) ?_
  refine x_iadd (v := 1) hx hb dX3_putItem_75 (by decide) ?_
  refine g_v (wr := [(q10, .inl (g.2 0, 384, .inl (upd (upd (upd f11 1 x2) 2 x3) 3 x4)))]) (rV (rest := []) hx hb hml hown hE hP hD 1 rfl rfl (c133_X3_putFigure l g q1 q7 (.ref q10) f8 H.size) (kV_X3_putFigure hE (e91 hE) rfl rfl ⟨(Nat.le_of_ble_eq_true rfl), (Nat.le_of_ble_eq_true rfl)⟩) [0, 1] rfl (by decide) rfl hl.1 rfl (lv_room (Nat.le_of_ble_eq_true rfl)) dX3_putItem_76 ⟨(Nat.le_of_ble_eq_true rfl), (Nat.le_of_ble_eq_true rfl)⟩) hP hD hS hA [0, 1] [2] rfl rfl (by decide) (by decide) (fun u6 H locs hP hD hS => ?_)
  have hP : va_P g.1 vwCl [(q10, .inl (g.2 0, 384, .inl (upd (upd (upd f11 1 x2) 2 x3) 3 x4))), (q7, .inl (g.2 0, 40, .inl (upd f8 0 1))), (q1, .inr (5, [.ref q10, .ref q7]))] H := hP
  have hD : va_D A [(q10, .inl (g.2 0, 384, .inl (upd (upd (upd f11 1 x2) 2 x3) 3 x4))), (q7, .inl (g.2 0, 40, .inl (upd f8 0 1))), (q1, .inr (5, [.ref q10, .ref q7]))] := hD
  exact x_vret hx hb hr hlocks hP hD hS hAe hsz (Nat.le_of_ble_eq_true rfl) (Nat.le_of_ble_eq_true rfl) (fun _ => 0) [0, 1, 2] (by decide) rfl dX3_putItem_79

set_option maxHeartbeats 4000000 in
set_option maxRecDepth 100000 in
theorem c135_X9_putItem (l : Launch) (g : gG) (q1 q12 q15 q18 : Nat) (x2 x3 x4 : Int32) (w6 w7 w8 w9 w10 w11 : Value) (f16 : Nat → Int32) (f19 : Nat → Int32) (hf17 : f16 0 = 0) (hf20 : f19 0 = 0) (sz : Nat) : Met l yX9_putItem [Cond.code yX9_putItem cX9_putItem 6 none] ({ frames := 2, cells := 0, slots := 0, locals := 51 } : Room) (va_Pc [.ref q1, .int 0, .int 0, .int x2, .int x3, .int x4] (PX g sz [(q18, .inl (g.2 0, 384, .inl f19)), (q15, .inl (g.2 0, 40, .inl f16)), (q12, .inr (5, [.ref q18, .ref q15])), (q1, .inr (8, [.ref q12, w6, w7, w8, w9, w10, w11]))])) (QV g [(q18, .inl (g.2 0, 384, .inl f19)), (q15, .inl (g.2 0, 40, .inl f16)), (q12, .inr (5, [.ref q18, .ref q15])), (q1, .inr (8, [.ref q12, w6, w7, w8, w9, w10, w11]))] sz (fun _ => [(q1, .inr (8, [.ref q12, w6, w7, w8, w9, w10, w11])), (q18, .inl (g.2 0, 384, .inl (upd (upd (upd f19 1 x2) 2 x3) 3 x4))), (q15, .inl (g.2 0, 40, .inl (upd f16 0 1))), (q12, .inr (5, [.ref q18, .ref q15]))])) 0 0 (va_A [(q18, .inl (g.2 0, 384, .inl f19)), (q15, .inl (g.2 0, 40, .inl f16)), (q12, .inr (5, [.ref q18, .ref q15])), (q1, .inr (8, [.ref q12, w6, w7, w8, w9, w10, w11]))] sz) := by
  refine ofN (by decide) (Nat.le_of_ble_eq_true rfl) rfl ?_
  intro p e s m args below meth c A ls hAe hsz hx hb hml hr hlocks hin hown hE hP hD hA hS hl
  have hown : s.vm.findClass RX9 = some m.cls := hown
  refine lv_aload_n hx hb dX9_putItem_0 rfl (lv_at hl 0 rfl) ?_
  refine gf_RX9_108 hx hb hown hE hP 3 rfl rfl dX9_putItem_1 ?_
  refine lv_iload_n hx hb dX9_putItem_4 rfl (lv_at hl 1 rfl) ?_
  refine lv_iconst (v := 0) hx hb dX9_putItem_5 (by decide) ?_
  refine g_i (wr := [(q18, .inl (g.2 0, 384, .inl f19)), (q1, .inr (8, [.ref q12, w6, w7, w8, w9, w10, w11]))]) (rV (rest := []) hx hb hml hown hE hP hD 2 rfl rfl (c128_X3_figure l g q12 q15 (.ref q18) f16 (hf17) s.heap.size) (kV_X3_figure hE (e668 hE) rfl rfl ⟨(Nat.le_of_ble_eq_true rfl), (Nat.le_of_ble_eq_true rfl)⟩) [1, 2] rfl (by decide) rfl hl.1 rfl (lv_room (Nat.le_of_ble_eq_true rfl)) dX9_putItem_6 ⟨(Nat.le_of_ble_eq_true rfl), (Nat.le_of_ble_eq_true rfl)⟩) hP hD hS hA [1, 2] [0, 3] rfl rfl (by decide) (by decide) (fun u1 H locs hP hD hS => ?_)
  have hP : va_P g.1 vwCl [(q18, .inl (g.2 0, 384, .inl f19)), (q1, .inr (8, [.ref q12, w6, w7, w8, w9, w10, w11])), (q15, .inl (g.2 0, 40, .inl f16)), (q12, .inr (5, [.ref q18, .ref q15]))] H := hP
  have hD : va_D A [(q18, .inl (g.2 0, 384, .inl f19)), (q1, .inr (8, [.ref q12, w6, w7, w8, w9, w10, w11])), (q15, .inl (g.2 0, 40, .inl f16)), (q12, .inr (5, [.ref q18, .ref q15]))] := hD
  refine lv_bipush (v := 12) hx hb dX9_putItem_9 (by decide) ?_
  refine lv_icmp_lt (tgt := 25) hx hb dX9_putItem_11 (by decide) (fun _ => ?_) (fun h => absurd (by decide) h)
  refine lv_aload_n hx hb dX9_putItem_25 rfl (lv_at hl 0 rfl) ?_
  refine gf_RX9_108 hx hb hown hE hP 1 rfl rfl dX9_putItem_26 ?_
  refine lv_iload_n hx hb dX9_putItem_29 rfl (lv_at hl 1 rfl) ?_
  refine lv_iload_n hx hb dX9_putItem_30 rfl (lv_at hl 2 rfl) ?_
  refine lv_iload_n hx hb dX9_putItem_31 rfl (lv_at hl 3 rfl) ?_
  refine lv_iload hx hb dX9_putItem_32 (lv_at hl 4 rfl) ?_
  refine lv_iload hx hb dX9_putItem_34 (lv_at hl 5 rfl) ?_
  refine g_v (wr := [(q1, .inr (8, [.ref q12, w6, w7, w8, w9, w10, w11]))]) (rV (rest := []) hx hb hml hown hE hP hD 3 rfl rfl (c134_X3_putItem l g q12 q15 q18 x2 x3 x4 f16 f19 (hf17) (hf20) H.size) (kV_X3_putItem hE (e685 hE) rfl rfl ⟨(Nat.le_of_ble_eq_true rfl), (Nat.le_of_ble_eq_true rfl)⟩) [0, 2, 3] rfl (by decide) rfl hl.1 rfl (lv_room (Nat.le_of_ble_eq_true rfl)) dX9_putItem_36 ⟨(Nat.le_of_ble_eq_true rfl), (Nat.le_of_ble_eq_true rfl)⟩) hP hD hS hA [0, 2, 3] [1] rfl rfl (by decide) (by decide) (fun u2 H locs hP hD hS => ?_)
  have hP : va_P g.1 vwCl [(q1, .inr (8, [.ref q12, w6, w7, w8, w9, w10, w11])), (q18, .inl (g.2 0, 384, .inl (upd (upd (upd f19 1 x2) 2 x3) 3 x4))), (q15, .inl (g.2 0, 40, .inl (upd f16 0 1))), (q12, .inr (5, [.ref q18, .ref q15]))] H := hP
  have hD : va_D A [(q1, .inr (8, [.ref q12, w6, w7, w8, w9, w10, w11])), (q18, .inl (g.2 0, 384, .inl (upd (upd (upd f19 1 x2) 2 x3) 3 x4))), (q15, .inl (g.2 0, 40, .inl (upd f16 0 1))), (q12, .inr (5, [.ref q18, .ref q15]))] := hD
  exact x_vret hx hb hr hlocks hP hD hS hAe hsz (Nat.le_of_ble_eq_true rfl) (Nat.le_of_ble_eq_true rfl) (fun _ => 0) [0, 1, 2, 3] (by decide) rfl dX9_putItem_39

set_option maxHeartbeats 4000000 in
set_option maxRecDepth 100000 in
theorem c136_X3_figure (l : Launch) (g : gG) (q1 q4 : Nat) (w2 : Value) (f5 : Nat → Int32) (hf6 : f5 0 = 1) (sz : Nat) : Met l yX3_figure [Cond.code yX3_figure cX3_figure 4 (some .int)] ({ frames := 0, cells := 0, slots := 0, locals := 0 } : Room) (va_Pc [.ref q1, .int 0, .int 0] (PX g sz [(q4, .inl (g.2 0, 40, .inl f5)), (q1, .inr (5, [w2, .ref q4]))])) (QI g [(q4, .inl (g.2 0, 40, .inl f5)), (q1, .inr (5, [w2, .ref q4]))] sz 1 (fun _ => [(q4, .inl (g.2 0, 40, .inl f5)), (q1, .inr (5, [w2, .ref q4]))])) 0 0 (va_A [(q4, .inl (g.2 0, 40, .inl f5)), (q1, .inr (5, [w2, .ref q4]))] sz) := by
  refine ofN (by decide) (Nat.le_of_ble_eq_true rfl) rfl ?_
  intro p e s m args below meth c A ls hAe hsz hx hb hml hr hlocks hin hown hE hP hD hA hS hl
  have hown : s.vm.findClass RX3 = some m.cls := hown
  refine lv_iload_n hx hb dX3_figure_0 rfl (lv_at hl 1 rfl) ?_
  refine lv_iconst (v := 5) hx hb dX3_figure_1 (by decide) ?_
  refine x_imul (v := 0) hx hb dX3_figure_2 (by decide) ?_
  refine lv_iload_n hx hb dX3_figure_3 rfl (lv_at hl 2 rfl) ?_
  refine x_iadd (v := 0) hx hb dX3_figure_4 (by decide) ?_
  refine lv_istore_n (lv' := [(3, .int 0), (0, .ref q1), (1, .int 0), (2, .int 0)]) hx hb dX3_figure_5 rfl hl (by decide) rfl (fun ls hl => ?_)
  refine lv_iload_n hx hb dX3_figure_6 rfl (lv_at hl 0 rfl) ?_
  refine lv_if_lt (tgt := 28) hx hb dX3_figure_7 (by decide) (fun h => absurd h (by decide)) (fun _ => ?_)
  refine lv_iload_n hx hb dX3_figure_10 rfl (lv_at hl 0 rfl) ?_
  refine lv_aload_n hx hb dX3_figure_11 rfl (lv_at hl 1 rfl) ?_
  refine gf_RX3_15 hx hb hown hE hP 1 rfl rfl dX3_figure_12 ?_
  refine x_aleni (v := 40) hx hb hE hP 0 rfl rfl dX3_figure_15 ?_
  refine lv_icmp_ge (tgt := 28) hx hb dX3_figure_16 (by decide) (fun h => absurd h (by decide)) (fun _ => ?_)
  refine lv_aload_n hx hb dX3_figure_19 rfl (lv_at hl 1 rfl) ?_
  refine gf_RX3_15 hx hb hown hE hP 1 rfl rfl dX3_figure_20 ?_
  refine lv_iload_n hx hb dX3_figure_23 rfl (lv_at hl 0 rfl) ?_
  refine x_iald (v := 1) hx hb hE hP 0 rfl 0 (x_in (by decide)) (by decide) hf6 dX3_figure_24 ?_
  refine lv_goto (tgt := 29) hx hb dX3_figure_25 (by decide) ?_
  exact x_zret hx hb hr rfl rfl hlocks hP hD hS hAe hsz (Nat.le_of_ble_eq_true rfl) (Nat.le_of_ble_eq_true rfl) (fun _ => 0) [0, 1] (by decide) rfl dX3_figure_29

set_option maxHeartbeats 4000000 in
set_option maxRecDepth 100000 in
theorem c137_X3_itemNumber (l : Launch) (g : gG) (q1 q4 : Nat) (x7 : Int32) (w3 : Value) (f5 : Nat → Int32) (hf6 : f5 2 = x7) (sz : Nat) : Met l yX3_itemNumber [Cond.code yX3_itemNumber cX3_itemNumber 5 (some .int)] ({ frames := 0, cells := 0, slots := 0, locals := 0 } : Room) (va_Pc [.ref q1, .int 0, .int 0, .int 2] (PX g sz [(q4, .inl (g.2 0, 384, .inl f5)), (q1, .inr (5, [.ref q4, w3]))])) (QI g [(q4, .inl (g.2 0, 384, .inl f5)), (q1, .inr (5, [.ref q4, w3]))] sz x7 (fun _ => [(q4, .inl (g.2 0, 384, .inl f5)), (q1, .inr (5, [.ref q4, w3]))])) 0 0 (va_A [(q4, .inl (g.2 0, 384, .inl f5)), (q1, .inr (5, [.ref q4, w3]))] sz) := by
  refine ofN (by decide) (Nat.le_of_ble_eq_true rfl) rfl ?_
  intro p e s m args below meth c A ls hAe hsz hx hb hml hr hlocks hin hown hE hP hD hA hS hl
  have hown : s.vm.findClass RX3 = some m.cls := hown
  refine lv_iload_n hx hb dX3_itemNumber_0 rfl (lv_at hl 1 rfl) ?_
  refine lv_bipush (v := 12) hx hb dX3_itemNumber_1 (by decide) ?_
  refine x_imul (v := 0) hx hb dX3_itemNumber_3 (by decide) ?_
  refine lv_iload_n hx hb dX3_itemNumber_4 rfl (lv_at hl 2 rfl) ?_
  refine x_iadd (v := 0) hx hb dX3_itemNumber_5 (by decide) ?_
  refine lv_iconst (v := 4) hx hb dX3_itemNumber_6 (by decide) ?_
  refine x_imul (v := 0) hx hb dX3_itemNumber_7 (by decide) ?_
  refine lv_iload_n hx hb dX3_itemNumber_8 rfl (lv_at hl 3 rfl) ?_
  refine x_iadd (v := 2) hx hb dX3_itemNumber_9 (by decide) ?_
  refine lv_istore (lv' := [(4, .int 2), (0, .ref q1), (1, .int 0), (2, .int 0), (3, .int 2)]) hx hb dX3_itemNumber_10 hl (by decide) rfl (fun ls hl => ?_)
  refine lv_iload hx hb dX3_itemNumber_12 (lv_at hl 0 rfl) ?_
  refine lv_if_lt (tgt := 37) hx hb dX3_itemNumber_14 (by decide) (fun h => absurd h (by decide)) (fun _ => ?_)
  refine lv_iload hx hb dX3_itemNumber_17 (lv_at hl 0 rfl) ?_
  refine lv_aload_n hx hb dX3_itemNumber_19 rfl (lv_at hl 1 rfl) ?_
  refine gf_RX3_9 hx hb hown hE hP 1 rfl rfl dX3_itemNumber_20 ?_
  refine x_aleni (v := 384) hx hb hE hP 0 rfl rfl dX3_itemNumber_23 ?_
  refine lv_icmp_ge (tgt := 37) hx hb dX3_itemNumber_24 (by decide) (fun h => absurd h (by decide)) (fun _ => ?_)
  refine lv_aload_n hx hb dX3_itemNumber_27 rfl (lv_at hl 1 rfl) ?_
  refine gf_RX3_9 hx hb hown hE hP 1 rfl rfl dX3_itemNumber_28 ?_
  refine lv_iload hx hb dX3_itemNumber_31 (lv_at hl 0 rfl) ?_
  refine x_iald (v := x7) hx hb hE hP 0 rfl 2 (x_in (by decide)) (by decide) hf6 dX3_itemNumber_33 ?_
  refine lv_goto (tgt := 38) hx hb dX3_itemNumber_34 (by decide) ?_
  exact x_zret hx hb hr rfl rfl hlocks hP hD hS hAe hsz (Nat.le_of_ble_eq_true rfl) (Nat.le_of_ble_eq_true rfl) (fun _ => 0) [0, 1] (by decide) rfl dX3_itemNumber_38

set_option maxHeartbeats 4000000 in
set_option maxRecDepth 100000 in
theorem c138_X3_itemNumber (l : Launch) (g : gG) (q1 q4 : Nat) (w3 : Value) (f5 : Nat → Int32) (hf6 : f5 0 = 0) (sz : Nat) : Met l yX3_itemNumber [Cond.code yX3_itemNumber cX3_itemNumber 5 (some .int)] ({ frames := 0, cells := 0, slots := 0, locals := 0 } : Room) (va_Pc [.ref q1, .int 0, .int 0, .int 0] (PX g sz [(q4, .inl (g.2 0, 384, .inl f5)), (q1, .inr (5, [.ref q4, w3]))])) (QI g [(q4, .inl (g.2 0, 384, .inl f5)), (q1, .inr (5, [.ref q4, w3]))] sz 0 (fun _ => [(q4, .inl (g.2 0, 384, .inl f5)), (q1, .inr (5, [.ref q4, w3]))])) 0 0 (va_A [(q4, .inl (g.2 0, 384, .inl f5)), (q1, .inr (5, [.ref q4, w3]))] sz) := by
  refine ofN (by decide) (Nat.le_of_ble_eq_true rfl) rfl ?_
  intro p e s m args below meth c A ls hAe hsz hx hb hml hr hlocks hin hown hE hP hD hA hS hl
  have hown : s.vm.findClass RX3 = some m.cls := hown
  refine lv_iload_n hx hb dX3_itemNumber_0 rfl (lv_at hl 1 rfl) ?_
  refine lv_bipush (v := 12) hx hb dX3_itemNumber_1 (by decide) ?_
  refine x_imul (v := 0) hx hb dX3_itemNumber_3 (by decide) ?_
  refine lv_iload_n hx hb dX3_itemNumber_4 rfl (lv_at hl 2 rfl) ?_
  refine x_iadd (v := 0) hx hb dX3_itemNumber_5 (by decide) ?_
  refine lv_iconst (v := 4) hx hb dX3_itemNumber_6 (by decide) ?_
  refine x_imul (v := 0) hx hb dX3_itemNumber_7 (by decide) ?_
  refine lv_iload_n hx hb dX3_itemNumber_8 rfl (lv_at hl 3 rfl) ?_
  refine x_iadd (v := 0) hx hb dX3_itemNumber_9 (by decide) ?_
  refine lv_istore (lv' := [(4, .int 0), (0, .ref q1), (1, .int 0), (2, .int 0), (3, .int 0)]) hx hb dX3_itemNumber_10 hl (by decide) rfl (fun ls hl => ?_)
  refine lv_iload hx hb dX3_itemNumber_12 (lv_at hl 0 rfl) ?_
  refine lv_if_lt (tgt := 37) hx hb dX3_itemNumber_14 (by decide) (fun h => absurd h (by decide)) (fun _ => ?_)
  refine lv_iload hx hb dX3_itemNumber_17 (lv_at hl 0 rfl) ?_
  refine lv_aload_n hx hb dX3_itemNumber_19 rfl (lv_at hl 1 rfl) ?_
  refine gf_RX3_9 hx hb hown hE hP 1 rfl rfl dX3_itemNumber_20 ?_
  refine x_aleni (v := 384) hx hb hE hP 0 rfl rfl dX3_itemNumber_23 ?_
  refine lv_icmp_ge (tgt := 37) hx hb dX3_itemNumber_24 (by decide) (fun h => absurd h (by decide)) (fun _ => ?_)
  refine lv_aload_n hx hb dX3_itemNumber_27 rfl (lv_at hl 1 rfl) ?_
  refine gf_RX3_9 hx hb hown hE hP 1 rfl rfl dX3_itemNumber_28 ?_
  refine lv_iload hx hb dX3_itemNumber_31 (lv_at hl 0 rfl) ?_
  refine x_iald (v := 0) hx hb hE hP 0 rfl 0 (x_in (by decide)) (by decide) hf6 dX3_itemNumber_33 ?_
  refine lv_goto (tgt := 38) hx hb dX3_itemNumber_34 (by decide) ?_
  exact x_zret hx hb hr rfl rfl hlocks hP hD hS hAe hsz (Nat.le_of_ble_eq_true rfl) (Nat.le_of_ble_eq_true rfl) (fun _ => 0) [0, 1] (by decide) rfl dX3_itemNumber_38

set_option maxHeartbeats 4000000 in
set_option maxRecDepth 100000 in
theorem c139_X3_lengthOf (l : Launch) (g : gG) (q1 q4 : Nat) (x7 : Int32) (w3 : Value) (f5 : Nat → Int32) (hf6 : f5 2 = x7) (hf8 : f5 0 = 0) (sz : Nat) : Met l yX3_lengthOf [Cond.code yX3_lengthOf cX3_lengthOf 4 (some .int)] ({ frames := 1, cells := 0, slots := 0, locals := 24 } : Room) (va_Pc [.ref q1, .int 0, .int 0] (PX g sz [(q4, .inl (g.2 0, 384, .inl f5)), (q1, .inr (5, [.ref q4, w3]))])) (QI g [(q4, .inl (g.2 0, 384, .inl f5)), (q1, .inr (5, [.ref q4, w3]))] sz x7 (fun _ => [(q4, .inl (g.2 0, 384, .inl f5)), (q1, .inr (5, [.ref q4, w3]))])) 0 0 (va_A [(q4, .inl (g.2 0, 384, .inl f5)), (q1, .inr (5, [.ref q4, w3]))] sz) := by
  refine ofN (by decide) (Nat.le_of_ble_eq_true rfl) rfl ?_
  intro p e s m args below meth c A ls hAe hsz hx hb hml hr hlocks hin hown hE hP hD hA hS hl
  have hown : s.vm.findClass RX3 = some m.cls := hown
  refine lv_aload_n hx hb dX3_lengthOf_0 rfl (lv_at hl 0 rfl) ?_
  refine lv_iload_n hx hb dX3_lengthOf_1 rfl (lv_at hl 1 rfl) ?_
  refine lv_iload_n hx hb dX3_lengthOf_2 rfl (lv_at hl 2 rfl) ?_
  refine lv_iconst (v := 2) hx hb dX3_lengthOf_3 (by decide) ?_
  refine g_i (wr := []) (rV (rest := []) hx hb hml hown hE hP hD 1 rfl rfl (c137_X3_itemNumber l g q1 q4 x7 w3 f5 (hf6) s.heap.size) (kV_X3_itemNumber hE (e348 hE) rfl rfl ⟨(Nat.le_of_ble_eq_true rfl), (Nat.le_of_ble_eq_true rfl)⟩) [0, 1] rfl (by decide) rfl hl.1 rfl (lv_room (Nat.le_of_ble_eq_true rfl)) dX3_lengthOf_4 ⟨(Nat.le_of_ble_eq_true rfl), (Nat.le_of_ble_eq_true rfl)⟩) hP hD hS hA [0, 1] [] rfl rfl (by decide) (by decide) (fun u1 H locs hP hD hS => ?_)
  have hP : va_P g.1 vwCl [(q4, .inl (g.2 0, 384, .inl f5)), (q1, .inr (5, [.ref q4, w3]))] H := hP
  have hD : va_D A [(q4, .inl (g.2 0, 384, .inl f5)), (q1, .inr (5, [.ref q4, w3]))] := hD
  refine lv_istore_n (lv' := [(3, .int x7), (0, .ref q1), (1, .int 0), (2, .int 0)]) hx hb dX3_lengthOf_7 rfl hl (by decide) rfl (fun ls hl => ?_)
  refine lv_aload_n hx hb dX3_lengthOf_8 rfl (lv_at hl 1 rfl) ?_
  refine lv_iload_n hx hb dX3_lengthOf_9 rfl (lv_at hl 2 rfl) ?_
  refine lv_iload_n hx hb dX3_lengthOf_10 rfl (lv_at hl 3 rfl) ?_
  refine lv_iconst (v := 0) hx hb dX3_lengthOf_11 (by decide) ?_
  refine g_i (wr := []) (rV (rest := []) hx hb hml hown hE hP hD 1 rfl rfl (c138_X3_itemNumber l g q1 q4 w3 f5 (hf8) H.size) (kV_X3_itemNumber hE (e348 hE) rfl rfl ⟨(Nat.le_of_ble_eq_true rfl), (Nat.le_of_ble_eq_true rfl)⟩) [0, 1] rfl (by decide) rfl hl.1 rfl (lv_room (Nat.le_of_ble_eq_true rfl)) dX3_lengthOf_12 ⟨(Nat.le_of_ble_eq_true rfl), (Nat.le_of_ble_eq_true rfl)⟩) hP hD hS hA [0, 1] [] rfl rfl (by decide) (by decide) (fun u2 H locs hP hD hS => ?_)
  have hP : va_P g.1 vwCl [(q4, .inl (g.2 0, 384, .inl f5)), (q1, .inr (5, [.ref q4, w3]))] H := hP
  have hD : va_D A [(q4, .inl (g.2 0, 384, .inl f5)), (q1, .inr (5, [.ref q4, w3]))] := hD
  refine lv_iconst (v := 2) hx hb dX3_lengthOf_15 (by decide) ?_
  refine lv_icmp_ne (tgt := 34) hx hb dX3_lengthOf_16 (by decide) (fun _ => ?_) (fun h => absurd h (by decide))
  refine lv_iload_n hx hb dX3_lengthOf_34 rfl (lv_at hl 0 rfl) ?_
  exact x_zret hx hb hr rfl rfl hlocks hP hD hS hAe hsz (Nat.le_of_ble_eq_true rfl) (Nat.le_of_ble_eq_true rfl) (fun _ => 0) [0, 1] (by decide) rfl dX3_lengthOf_35

set_option maxHeartbeats 4000000 in
set_option maxRecDepth 100000 in
theorem c140_X3_notesOf (l : Launch) (g : gG) (q1 q4 : Nat) (w3 : Value) (f5 : Nat → Int32) (hf6 : f5 0 = 0) (sz : Nat) : Met l yX3_notesOf [Cond.code yX3_notesOf cX3_notesOf 4 (some .int)] ({ frames := 1, cells := 0, slots := 0, locals := 24 } : Room) (va_Pc [.ref q1, .int 0, .int 0] (PX g sz [(q4, .inl (g.2 0, 384, .inl f5)), (q1, .inr (5, [.ref q4, w3]))])) (QI g [(q4, .inl (g.2 0, 384, .inl f5)), (q1, .inr (5, [.ref q4, w3]))] sz 1 (fun _ => [(q4, .inl (g.2 0, 384, .inl f5)), (q1, .inr (5, [.ref q4, w3]))])) 0 0 (va_A [(q4, .inl (g.2 0, 384, .inl f5)), (q1, .inr (5, [.ref q4, w3]))] sz) := by
  refine ofN (by decide) (Nat.le_of_ble_eq_true rfl) rfl ?_
  intro p e s m args below meth c A ls hAe hsz hx hb hml hr hlocks hin hown hE hP hD hA hS hl
  have hown : s.vm.findClass RX3 = some m.cls := hown
  refine lv_aload_n hx hb dX3_notesOf_0 rfl (lv_at hl 0 rfl) ?_
  refine lv_iload_n hx hb dX3_notesOf_1 rfl (lv_at hl 1 rfl) ?_
  refine lv_iload_n hx hb dX3_notesOf_2 rfl (lv_at hl 2 rfl) ?_
  refine lv_iconst (v := 0) hx hb dX3_notesOf_3 (by decide) ?_
  refine g_i (wr := []) (rV (rest := []) hx hb hml hown hE hP hD 1 rfl rfl (c138_X3_itemNumber l g q1 q4 w3 f5 (hf6) s.heap.size) (kV_X3_itemNumber hE (e348 hE) rfl rfl ⟨(Nat.le_of_ble_eq_true rfl), (Nat.le_of_ble_eq_true rfl)⟩) [0, 1] rfl (by decide) rfl hl.1 rfl (lv_room (Nat.le_of_ble_eq_true rfl)) dX3_notesOf_4 ⟨(Nat.le_of_ble_eq_true rfl), (Nat.le_of_ble_eq_true rfl)⟩) hP hD hS hA [0, 1] [] rfl rfl (by decide) (by decide) (fun u1 H locs hP hD hS => ?_)
  have hP : va_P g.1 vwCl [(q4, .inl (g.2 0, 384, .inl f5)), (q1, .inr (5, [.ref q4, w3]))] H := hP
  have hD : va_D A [(q4, .inl (g.2 0, 384, .inl f5)), (q1, .inr (5, [.ref q4, w3]))] := hD
  refine lv_istore_n (lv' := [(3, .int 0), (0, .ref q1), (1, .int 0), (2, .int 0)]) hx hb dX3_notesOf_7 rfl hl (by decide) rfl (fun ls hl => ?_)
  refine lv_iload_n hx hb dX3_notesOf_8 rfl (lv_at hl 0 rfl) ?_
  refine lv_iconst (v := 2) hx hb dX3_notesOf_9 (by decide) ?_
  refine lv_icmp_ne (tgt := 34) hx hb dX3_notesOf_10 (by decide) (fun _ => ?_) (fun h => absurd h (by decide))
  refine lv_iload_n hx hb dX3_notesOf_34 rfl (lv_at hl 0 rfl) ?_
  refine lv_if_ne (tgt := 42) hx hb dX3_notesOf_35 (by decide) (fun h => absurd h (by decide)) (fun _ => ?_)
  refine lv_iconst (v := 1) hx hb dX3_notesOf_38 (by decide) ?_
  refine lv_goto (tgt := 43) hx hb dX3_notesOf_39 (by decide) ?_
  exact x_zret hx hb hr rfl rfl hlocks hP hD hS hAe hsz (Nat.le_of_ble_eq_true rfl) (Nat.le_of_ble_eq_true rfl) (fun _ => 0) [0, 1] (by decide) rfl dX3_notesOf_43

set_option maxHeartbeats 4000000 in
set_option maxRecDepth 100000 in
theorem c141_X3_putFigure (l : Launch) (g : gG) (q1 q5 : Nat) (x2 : Int32) (w3 : Value) (f6 : Nat → Int32) (sz : Nat) : Met l yX3_putFigure [Cond.code yX3_putFigure cX3_putFigure 5 none] ({ frames := 0, cells := 0, slots := 0, locals := 0 } : Room) (va_Pc [.ref q1, .int 0, .int 1, .int x2] (PX g sz [(q5, .inl (g.2 0, 40, .inl f6)), (q1, .inr (5, [w3, .ref q5]))])) (QV g [(q5, .inl (g.2 0, 40, .inl f6)), (q1, .inr (5, [w3, .ref q5]))] sz (fun _ => [(q5, .inl (g.2 0, 40, .inl (upd f6 1 x2))), (q1, .inr (5, [w3, .ref q5]))])) 0 0 (va_A [(q5, .inl (g.2 0, 40, .inl f6)), (q1, .inr (5, [w3, .ref q5]))] sz) := by
  refine ofN (by decide) (Nat.le_of_ble_eq_true rfl) rfl ?_
  intro p e s m args below meth c A ls hAe hsz hx hb hml hr hlocks hin hown hE hP hD hA hS hl
  have hown : s.vm.findClass RX3 = some m.cls := hown
  refine lv_iload_n hx hb dX3_putFigure_0 rfl (lv_at hl 1 rfl) ?_
  refine lv_iconst (v := 5) hx hb dX3_putFigure_1 (by decide) ?_
  refine x_imul (v := 0) hx hb dX3_putFigure_2 (by decide) ?_
  refine lv_iload_n hx hb dX3_putFigure_3 rfl (lv_at hl 2 rfl) ?_
  refine x_iadd (v := 1) hx hb dX3_putFigure_4 (by decide) ?_
  refine lv_istore (lv' := [(4, .int 1), (0, .ref q1), (1, .int 0), (2, .int 1), (3, .int x2)]) hx hb dX3_putFigure_5 hl (by decide) rfl (fun ls hl => ?_)
  refine lv_iload hx hb dX3_putFigure_7 (lv_at hl 0 rfl) ?_
  refine lv_if_lt (tgt := 30) hx hb dX3_putFigure_9 (by decide) (fun h => absurd h (by decide)) (fun _ => ?_)
  refine lv_iload hx hb dX3_putFigure_12 (lv_at hl 0 rfl) ?_
  refine lv_aload_n hx hb dX3_putFigure_14 rfl (lv_at hl 1 rfl) ?_
  refine gf_RX3_15 hx hb hown hE hP 1 rfl rfl dX3_putFigure_15 ?_
  refine x_aleni (v := 40) hx hb hE hP 0 rfl rfl dX3_putFigure_18 ?_
  refine lv_icmp_ge (tgt := 30) hx hb dX3_putFigure_19 (by decide) (fun h => absurd h (by decide)) (fun _ => ?_)
  refine lv_aload_n hx hb dX3_putFigure_22 rfl (lv_at hl 1 rfl) ?_
  refine gf_RX3_15 hx hb hown hE hP 1 rfl rfl dX3_putFigure_23 ?_
  refine lv_iload hx hb dX3_putFigure_26 (lv_at hl 0 rfl) ?_
  refine lv_iload_n hx hb dX3_putFigure_28 rfl (lv_at hl 4 rfl) ?_
  refine x_iast (ws' := [(q5, .inl (g.2 0, 40, .inl (upd f6 1 x2))), (q1, .inr (5, [w3, .ref q5]))]) hx hb hE hP hD hS 0 rfl 1 (x_in (by decide)) (by decide) dX3_putFigure_29 rfl (fun H locs hP hD hS => ?_)
  exact x_vret hx hb hr hlocks hP hD hS hAe hsz (Nat.le_of_ble_eq_true rfl) (Nat.le_of_ble_eq_true rfl) (fun _ => 0) [0, 1] (by decide) rfl dX3_putFigure_30

set_option maxHeartbeats 4000000 in
set_option maxRecDepth 100000 in
theorem c142_X3_putFigure (l : Launch) (g : gG) (q1 q4 : Nat) (w2 : Value) (f5 : Nat → Int32) (sz : Nat) : Met l yX3_putFigure [Cond.code yX3_putFigure cX3_putFigure 5 none] ({ frames := 0, cells := 0, slots := 0, locals := 0 } : Room) (va_Pc [.ref q1, .int 0, .int 2, .int 1] (PX g sz [(q4, .inl (g.2 0, 40, .inl f5)), (q1, .inr (5, [w2, .ref q4]))])) (QV g [(q4, .inl (g.2 0, 40, .inl f5)), (q1, .inr (5, [w2, .ref q4]))] sz (fun _ => [(q4, .inl (g.2 0, 40, .inl (upd f5 2 1))), (q1, .inr (5, [w2, .ref q4]))])) 0 0 (va_A [(q4, .inl (g.2 0, 40, .inl f5)), (q1, .inr (5, [w2, .ref q4]))] sz) := by
  refine ofN (by decide) (Nat.le_of_ble_eq_true rfl) rfl ?_
  intro p e s m args below meth c A ls hAe hsz hx hb hml hr hlocks hin hown hE hP hD hA hS hl
  have hown : s.vm.findClass RX3 = some m.cls := hown
  refine lv_iload_n hx hb dX3_putFigure_0 rfl (lv_at hl 1 rfl) ?_
  refine lv_iconst (v := 5) hx hb dX3_putFigure_1 (by decide) ?_
  refine x_imul (v := 0) hx hb dX3_putFigure_2 (by decide) ?_
  refine lv_iload_n hx hb dX3_putFigure_3 rfl (lv_at hl 2 rfl) ?_
  refine x_iadd (v := 2) hx hb dX3_putFigure_4 (by decide) ?_
  refine lv_istore (lv' := [(4, .int 2), (0, .ref q1), (1, .int 0), (2, .int 2), (3, .int 1)]) hx hb dX3_putFigure_5 hl (by decide) rfl (fun ls hl => ?_)
  refine lv_iload hx hb dX3_putFigure_7 (lv_at hl 0 rfl) ?_
  refine lv_if_lt (tgt := 30) hx hb dX3_putFigure_9 (by decide) (fun h => absurd h (by decide)) (fun _ => ?_)
  refine lv_iload hx hb dX3_putFigure_12 (lv_at hl 0 rfl) ?_
  refine lv_aload_n hx hb dX3_putFigure_14 rfl (lv_at hl 1 rfl) ?_
  refine gf_RX3_15 hx hb hown hE hP 1 rfl rfl dX3_putFigure_15 ?_
  refine x_aleni (v := 40) hx hb hE hP 0 rfl rfl dX3_putFigure_18 ?_
  refine lv_icmp_ge (tgt := 30) hx hb dX3_putFigure_19 (by decide) (fun h => absurd h (by decide)) (fun _ => ?_)
  refine lv_aload_n hx hb dX3_putFigure_22 rfl (lv_at hl 1 rfl) ?_
  refine gf_RX3_15 hx hb hown hE hP 1 rfl rfl dX3_putFigure_23 ?_
  refine lv_iload hx hb dX3_putFigure_26 (lv_at hl 0 rfl) ?_
  refine lv_iload_n hx hb dX3_putFigure_28 rfl (lv_at hl 4 rfl) ?_
  refine x_iast (ws' := [(q4, .inl (g.2 0, 40, .inl (upd f5 2 1))), (q1, .inr (5, [w2, .ref q4]))]) hx hb hE hP hD hS 0 rfl 2 (x_in (by decide)) (by decide) dX3_putFigure_29 rfl (fun H locs hP hD hS => ?_)
  exact x_vret hx hb hr hlocks hP hD hS hAe hsz (Nat.le_of_ble_eq_true rfl) (Nat.le_of_ble_eq_true rfl) (fun _ => 0) [0, 1] (by decide) rfl dX3_putFigure_30

set_option maxHeartbeats 4000000 in
set_option maxRecDepth 100000 in
theorem c143_X3_putFigure (l : Launch) (g : gG) (q1 q4 : Nat) (w2 : Value) (f5 : Nat → Int32) (hf6 : f5 3 = 0) (sz : Nat) : Met l yX3_putFigure [Cond.code yX3_putFigure cX3_putFigure 5 none] ({ frames := 0, cells := 0, slots := 0, locals := 0 } : Room) (va_Pc [.ref q1, .int 0, .int 3, .int 0] (PX g sz [(q4, .inl (g.2 0, 40, .inl f5)), (q1, .inr (5, [w2, .ref q4]))])) (QV g [(q4, .inl (g.2 0, 40, .inl f5)), (q1, .inr (5, [w2, .ref q4]))] sz (fun _ => [(q4, .inl (g.2 0, 40, .inl f5)), (q1, .inr (5, [w2, .ref q4]))])) 0 0 (va_A [(q4, .inl (g.2 0, 40, .inl f5)), (q1, .inr (5, [w2, .ref q4]))] sz) := by
  refine ofN (by decide) (Nat.le_of_ble_eq_true rfl) rfl ?_
  intro p e s m args below meth c A ls hAe hsz hx hb hml hr hlocks hin hown hE hP hD hA hS hl
  have hown : s.vm.findClass RX3 = some m.cls := hown
  refine lv_iload_n hx hb dX3_putFigure_0 rfl (lv_at hl 1 rfl) ?_
  refine lv_iconst (v := 5) hx hb dX3_putFigure_1 (by decide) ?_
  refine x_imul (v := 0) hx hb dX3_putFigure_2 (by decide) ?_
  refine lv_iload_n hx hb dX3_putFigure_3 rfl (lv_at hl 2 rfl) ?_
  refine x_iadd (v := 3) hx hb dX3_putFigure_4 (by decide) ?_
  refine lv_istore (lv' := [(4, .int 3), (0, .ref q1), (1, .int 0), (2, .int 3), (3, .int 0)]) hx hb dX3_putFigure_5 hl (by decide) rfl (fun ls hl => ?_)
  refine lv_iload hx hb dX3_putFigure_7 (lv_at hl 0 rfl) ?_
  refine lv_if_lt (tgt := 30) hx hb dX3_putFigure_9 (by decide) (fun h => absurd h (by decide)) (fun _ => ?_)
  refine lv_iload hx hb dX3_putFigure_12 (lv_at hl 0 rfl) ?_
  refine lv_aload_n hx hb dX3_putFigure_14 rfl (lv_at hl 1 rfl) ?_
  refine gf_RX3_15 hx hb hown hE hP 1 rfl rfl dX3_putFigure_15 ?_
  refine x_aleni (v := 40) hx hb hE hP 0 rfl rfl dX3_putFigure_18 ?_
  refine lv_icmp_ge (tgt := 30) hx hb dX3_putFigure_19 (by decide) (fun h => absurd h (by decide)) (fun _ => ?_)
  refine lv_aload_n hx hb dX3_putFigure_22 rfl (lv_at hl 1 rfl) ?_
  refine gf_RX3_15 hx hb hown hE hP 1 rfl rfl dX3_putFigure_23 ?_
  refine lv_iload hx hb dX3_putFigure_26 (lv_at hl 0 rfl) ?_
  refine lv_iload_n hx hb dX3_putFigure_28 rfl (lv_at hl 4 rfl) ?_
  refine x_iast_same hx hb hE hP hD hS 0 rfl 3 (x_in (by decide)) (by decide) hf6 dX3_putFigure_29 (fun H locs hP hD hS => ?_)
  exact x_vret hx hb hr hlocks hP hD hS hAe hsz (Nat.le_of_ble_eq_true rfl) (Nat.le_of_ble_eq_true rfl) (fun _ => 0) [0, 1] (by decide) rfl dX3_putFigure_30

set_option maxHeartbeats 4000000 in
set_option maxRecDepth 100000 in
theorem c144_X3_measureOne (l : Launch) (g : gG) (q1 q4 q7 : Nat) (x10 : Int32) (f5 : Nat → Int32) (f8 : Nat → Int32) (hf6 : f5 0 = 1) (hf9 : f8 2 = x10) (hf11 : f8 0 = 0) (hf12 : f5 3 = 0) (sz : Nat) : Met l yX3_measureOne [Cond.code yX3_measureOne cX3_measureOne 9 none] ({ frames := 2, cells := 0, slots := 0, locals := 47 } : Room) (va_Pc [.ref q1, .int 0] (PX g sz [(q7, .inl (g.2 0, 384, .inl f8)), (q4, .inl (g.2 0, 40, .inl f5)), (q1, .inr (5, [.ref q7, .ref q4]))])) (QV g [(q7, .inl (g.2 0, 384, .inl f8)), (q4, .inl (g.2 0, 40, .inl f5)), (q1, .inr (5, [.ref q7, .ref q4]))] sz (fun _ => [(q7, .inl (g.2 0, 384, .inl f8)), (q4, .inl (g.2 0, 40, .inl (upd (upd (upd f5 1 x10) 2 1) 4 1))), (q1, .inr (5, [.ref q7, .ref q4]))])) 0 0 (va_A [(q7, .inl (g.2 0, 384, .inl f8)), (q4, .inl (g.2 0, 40, .inl f5)), (q1, .inr (5, [.ref q7, .ref q4]))] sz) := by
  refine ofN (by decide) (Nat.le_of_ble_eq_true rfl) rfl ?_
  intro p e s m args below meth c A ls hAe hsz hx hb hml hr hlocks hin hown hE hP hD hA hS hl
  have hown : s.vm.findClass RX3 = some m.cls := hown
  refine lv_iconst (v := 0) hx hb dX3_measureOne_0 (by decide) ?_
  refine lv_istore_n (lv' := [(2, .int 0), (0, .ref q1), (1, .int 0)]) hx hb dX3_measureOne_1 rfl hl (by decide) rfl (fun ls hl => ?_)
  refine lv_iconst (v := 0) hx hb dX3_measureOne_2 (by decide) ?_
  refine lv_istore_n (lv' := [(3, .int 0), (2, .int 0), (0, .ref q1), (1, .int 0)]) hx hb dX3_measureOne_3 rfl hl (by decide) rfl (fun ls hl => ?_)
  refine lv_iconst (v := 0) hx hb dX3_measureOne_4 (by decide) ?_
  refine lv_istore (lv' := [(4, .int 0), (3, .int 0), (2, .int 0), (0, .ref q1), (1, .int 0)]) hx hb dX3_measureOne_5 hl (by decide) rfl (fun ls hl => ?_)
  refine lv_iconst (v := 1) hx hb dX3_measureOne_7 (by decide) ?_
  refine lv_istore (lv' := [(5, .int 1), (4, .int 0), (3, .int 0), (2, .int 0), (0, .ref q1), (1, .int 0)]) hx hb dX3_measureOne_8 hl (by decide) rfl (fun ls hl => ?_)
  refine lv_aload_n hx hb dX3_measureOne_10 rfl (lv_at hl 4 rfl) ?_
  refine lv_iload_n hx hb dX3_measureOne_11 rfl (lv_at hl 5 rfl) ?_
  refine lv_iconst (v := 0) hx hb dX3_measureOne_12 (by decide) ?_
  refine g_i (wr := [(q7, .inl (g.2 0, 384, .inl f8))]) (rV (rest := []) hx hb hml hown hE hP hD 2 rfl rfl (c136_X3_figure l g q1 q4 (.ref q7) f5 (hf6) s.heap.size) (kV_X3_figure hE (e343 hE) rfl rfl ⟨(Nat.le_of_ble_eq_true rfl), (Nat.le_of_ble_eq_true rfl)⟩) [1, 2] rfl (by decide) rfl hl.1 rfl (lv_room (Nat.le_of_ble_eq_true rfl)) dX3_measureOne_13 ⟨(Nat.le_of_ble_eq_true rfl), (Nat.le_of_ble_eq_true rfl)⟩) hP hD hS hA [1, 2] [0] rfl rfl (by decide) (by decide) (fun u1 H locs hP hD hS => ?_)
  have hP : va_P g.1 vwCl [(q7, .inl (g.2 0, 384, .inl f8)), (q4, .inl (g.2 0, 40, .inl f5)), (q1, .inr (5, [.ref q7, .ref q4]))] H := hP
  have hD : va_D A [(q7, .inl (g.2 0, 384, .inl f8)), (q4, .inl (g.2 0, 40, .inl f5)), (q1, .inr (5, [.ref q7, .ref q4]))] := hD
  refine lv_istore (lv' := [(6, .int 1), (5, .int 1), (4, .int 0), (3, .int 0), (2, .int 0), (0, .ref q1), (1, .int 0)]) hx hb dX3_measureOne_16 hl (by decide) rfl (fun ls hl => ?_)
  refine lv_iconst (v := 0) hx hb dX3_measureOne_18 (by decide) ?_
  refine lv_istore (lv' := [(7, .int 0), (6, .int 1), (5, .int 1), (4, .int 0), (3, .int 0), (2, .int 0), (0, .ref q1), (1, .int 0)]) hx hb dX3_measureOne_19 hl (by decide) rfl (fun ls hl => ?_)
  refine lv_iload hx hb dX3_measureOne_21 (lv_at hl 0 rfl) ?_
  refine lv_iload hx hb dX3_measureOne_23 (lv_at hl 1 rfl) ?_
  refine lv_icmp_ge (tgt := 109) hx hb dX3_measureOne_25 (by decide) (fun h => absurd h (by decide)) (fun _ => ?_)
  refine lv_iload_n hx hb dX3_measureOne_28 rfl (lv_at hl 5 rfl) ?_
  refine lv_aload_n hx hb dX3_measureOne_29 rfl (lv_at hl 6 rfl) ?_
  refine lv_iload_n hx hb dX3_measureOne_30 rfl (lv_at hl 7 rfl) ?_
  refine lv_iload hx hb dX3_measureOne_31 (lv_at hl 0 rfl) ?_
  refine g_i (wr := [(q4, .inl (g.2 0, 40, .inl f5))]) (rV (rest := [.int 0]) hx hb hml hown hE hP hD 2 rfl rfl (c139_X3_lengthOf l g q1 q7 x10 (.ref q4) f8 (hf9) (hf11) H.size) (kV_X3_lengthOf hE (e352 hE) rfl rfl ⟨(Nat.le_of_ble_eq_true rfl), (Nat.le_of_ble_eq_true rfl)⟩) [0, 2] rfl (by decide) rfl hl.1 rfl (lv_room (Nat.le_of_ble_eq_true rfl)) dX3_measureOne_33 ⟨(Nat.le_of_ble_eq_true rfl), (Nat.le_of_ble_eq_true rfl)⟩) hP hD hS hA [0, 2] [1] rfl rfl (by decide) (by decide) (fun u2 H locs hP hD hS => ?_)
  have hP : va_P g.1 vwCl [(q4, .inl (g.2 0, 40, .inl f5)), (q7, .inl (g.2 0, 384, .inl f8)), (q1, .inr (5, [.ref q7, .ref q4]))] H := hP
  have hD : va_D A [(q4, .inl (g.2 0, 40, .inl f5)), (q7, .inl (g.2 0, 384, .inl f8)), (q1, .inr (5, [.ref q7, .ref q4]))] := hD
  refine x_iadd (v := x10) hx hb dX3_measureOne_36 (Int32.zero_add _) ?_
  refine lv_istore_n (lv' := [(2, .int x10), (7, .int 0), (6, .int 1), (5, .int 1), (4, .int 0), (3, .int 0), (0, .ref q1), (1, .int 0)]) hx hb dX3_measureOne_37 rfl hl (by decide) rfl (fun ls hl => ?_)
  refine lv_iload_n hx hb dX3_measureOne_38 rfl (lv_at hl 5 rfl) ?_
  refine lv_aload_n hx hb dX3_measureOne_39 rfl (lv_at hl 6 rfl) ?_
  refine lv_iload_n hx hb dX3_measureOne_40 rfl (lv_at hl 7 rfl) ?_
  refine lv_iload hx hb dX3_measureOne_41 (lv_at hl 1 rfl) ?_
  refine g_i (wr := [(q4, .inl (g.2 0, 40, .inl f5))]) (rV (rest := [.int 0]) hx hb hml hown hE hP hD 2 rfl rfl (c140_X3_notesOf l g q1 q7 (.ref q4) f8 (hf11) H.size) (kV_X3_notesOf hE (e344 hE) rfl rfl ⟨(Nat.le_of_ble_eq_true rfl), (Nat.le_of_ble_eq_true rfl)⟩) [1, 2] rfl (by decide) rfl hl.1 rfl (lv_room (Nat.le_of_ble_eq_true rfl)) dX3_measureOne_43 ⟨(Nat.le_of_ble_eq_true rfl), (Nat.le_of_ble_eq_true rfl)⟩) hP hD hS hA [1, 2] [0] rfl rfl (by decide) (by decide) (fun u3 H locs hP hD hS => ?_)
  have hP : va_P g.1 vwCl [(q4, .inl (g.2 0, 40, .inl f5)), (q7, .inl (g.2 0, 384, .inl f8)), (q1, .inr (5, [.ref q7, .ref q4]))] H := hP
  have hD : va_D A [(q4, .inl (g.2 0, 40, .inl f5)), (q7, .inl (g.2 0, 384, .inl f8)), (q1, .inr (5, [.ref q7, .ref q4]))] := hD
  refine x_iadd (v := 1) hx hb dX3_measureOne_46 (by decide) ?_
  refine lv_istore_n (lv' := [(3, .int 1), (2, .int x10), (7, .int 0), (6, .int 1), (5, .int 1), (4, .int 0), (0, .ref q1), (1, .int 0)]) hx hb dX3_measureOne_47 rfl hl (by decide) rfl (fun ls hl => ?_)
  refine lv_aload_n hx hb dX3_measureOne_48 rfl (lv_at hl 6 rfl) ?_
  refine lv_iload_n hx hb dX3_measureOne_49 rfl (lv_at hl 7 rfl) ?_
  refine lv_iload hx hb dX3_measureOne_50 (lv_at hl 2 rfl) ?_
  refine lv_iconst (v := 0) hx hb dX3_measureOne_52 (by decide) ?_
  refine g_i (wr := [(q4, .inl (g.2 0, 40, .inl f5))]) (rV (rest := []) hx hb hml hown hE hP hD 2 rfl rfl (c138_X3_itemNumber l g q1 q7 (.ref q4) f8 (hf11) H.size) (kV_X3_itemNumber hE (e348 hE) rfl rfl ⟨(Nat.le_of_ble_eq_true rfl), (Nat.le_of_ble_eq_true rfl)⟩) [1, 2] rfl (by decide) rfl hl.1 rfl (lv_room (Nat.le_of_ble_eq_true rfl)) dX3_measureOne_53 ⟨(Nat.le_of_ble_eq_true rfl), (Nat.le_of_ble_eq_true rfl)⟩) hP hD hS hA [1, 2] [0] rfl rfl (by decide) (by decide) (fun u4 H locs hP hD hS => ?_)
  have hP : va_P g.1 vwCl [(q4, .inl (g.2 0, 40, .inl f5)), (q7, .inl (g.2 0, 384, .inl f8)), (q1, .inr (5, [.ref q7, .ref q4]))] H := hP
  have hD : va_D A [(q4, .inl (g.2 0, 40, .inl f5)), (q7, .inl (g.2 0, 384, .inl f8)), (q1, .inr (5, [.ref q7, .ref q4]))] := hD
  refine lv_iconst (v := 2) hx hb dX3_measureOne_56 (by decide) ?_
  refine lv_icmp_ne (tgt := 103) hx hb dX3_measureOne_57 (by decide) (fun _ => ?_) (fun h => absurd h (by decide))
  refine lv_iinc (v := 1) (lv' := [(7, .int 1), (3, .int 1), (2, .int x10), (6, .int 1), (5, .int 1), (4, .int 0), (0, .ref q1), (1, .int 0)]) hx hb dX3_measureOne_103 hl (k := 2) rfl (by decide) (by decide) rfl (fun ls hl => ?_)
  refine lv_goto (tgt := 21) hx hb dX3_measureOne_106 (by decide) ?_
  refine lv_iload hx hb dX3_measureOne_21 (lv_at hl 0 rfl) ?_
  refine lv_iload hx hb dX3_measureOne_23 (lv_at hl 3 rfl) ?_
  refine lv_icmp_ge (tgt := 109) hx hb dX3_measureOne_25 (by decide) (fun _ => ?_) (fun h => absurd (by decide) h)
  refine lv_aload_n hx hb dX3_measureOne_109 rfl (lv_at hl 6 rfl) ?_
  refine lv_iload_n hx hb dX3_measureOne_110 rfl (lv_at hl 7 rfl) ?_
  refine lv_iconst (v := 1) hx hb dX3_measureOne_111 (by decide) ?_
  refine lv_iload_n hx hb dX3_measureOne_112 rfl (lv_at hl 2 rfl) ?_
  refine g_v (wr := [(q7, .inl (g.2 0, 384, .inl f8))]) (rV (rest := []) hx hb hml hown hE hP hD 2 rfl rfl (c141_X3_putFigure l g q1 q4 x10 (.ref q7) f5 H.size) (kV_X3_putFigure hE (e91 hE) rfl rfl ⟨(Nat.le_of_ble_eq_true rfl), (Nat.le_of_ble_eq_true rfl)⟩) [0, 2] rfl (by decide) rfl hl.1 rfl (lv_room (Nat.le_of_ble_eq_true rfl)) dX3_measureOne_113 ⟨(Nat.le_of_ble_eq_true rfl), (Nat.le_of_ble_eq_true rfl)⟩) hP hD hS hA [0, 2] [1] rfl rfl (by decide) (by decide) (fun u5 H locs hP hD hS => ?_)
  have hP : va_P g.1 vwCl [(q7, .inl (g.2 0, 384, .inl f8)), (q4, .inl (g.2 0, 40, .inl (upd f5 1 x10))), (q1, .inr (5, [.ref q7, .ref q4]))] H := hP
  have hD : va_D A [(q7, .inl (g.2 0, 384, .inl f8)), (q4, .inl (g.2 0, 40, .inl (upd f5 1 x10))), (q1, .inr (5, [.ref q7, .ref q4]))] := hD
  refine lv_aload_n hx hb dX3_measureOne_116 rfl (lv_at hl 6 rfl) ?_
  refine lv_iload_n hx hb dX3_measureOne_117 rfl (lv_at hl 7 rfl) ?_
  refine lv_iconst (v := 2) hx hb dX3_measureOne_118 (by decide) ?_
  refine lv_iload_n hx hb dX3_measureOne_119 rfl (lv_at hl 1 rfl) ?_
  refine g_v (wr := [(q7, .inl (g.2 0, 384, .inl f8))]) (rV (rest := []) hx hb hml hown hE hP hD 2 rfl rfl (c142_X3_putFigure l g q1 q4 (.ref q7) (upd f5 1 x10) H.size) (kV_X3_putFigure hE (e91 hE) rfl rfl ⟨(Nat.le_of_ble_eq_true rfl), (Nat.le_of_ble_eq_true rfl)⟩) [1, 2] rfl (by decide) rfl hl.1 rfl (lv_room (Nat.le_of_ble_eq_true rfl)) dX3_measureOne_120 ⟨(Nat.le_of_ble_eq_true rfl), (Nat.le_of_ble_eq_true rfl)⟩) hP hD hS hA [1, 2] [0] rfl rfl (by decide) (by decide) (fun u6 H locs hP hD hS => ?_)
  have hP : va_P g.1 vwCl [(q7, .inl (g.2 0, 384, .inl f8)), (q4, .inl (g.2 0, 40, .inl (upd (upd f5 1 x10) 2 1))), (q1, .inr (5, [.ref q7, .ref q4]))] H := hP
  have hD : va_D A [(q7, .inl (g.2 0, 384, .inl f8)), (q4, .inl (g.2 0, 40, .inl (upd (upd f5 1 x10) 2 1))), (q1, .inr (5, [.ref q7, .ref q4]))] := hD
  refine lv_aload_n hx hb dX3_measureOne_123 rfl (lv_at hl 6 rfl) ?_
  refine lv_iload_n hx hb dX3_measureOne_124 rfl (lv_at hl 7 rfl) ?_
  refine lv_iconst (v := 3) hx hb dX3_measureOne_125 (by decide) ?_
  refine lv_iload hx hb dX3_measureOne_126 (lv_at hl 5 rfl) ?_
  refine g_v (wr := [(q7, .inl (g.2 0, 384, .inl f8))]) (rV (rest := []) hx hb hml hown hE hP hD 2 rfl rfl (c143_X3_putFigure l g q1 q4 (.ref q7) (upd (upd f5 1 x10) 2 1) (((pk_un (by decide)).trans ((pk_un (by decide)).trans hf12))) H.size) (kV_X3_putFigure hE (e91 hE) rfl rfl ⟨(Nat.le_of_ble_eq_true rfl), (Nat.le_of_ble_eq_true rfl)⟩) [1, 2] rfl (by decide) rfl hl.1 rfl (lv_room (Nat.le_of_ble_eq_true rfl)) dX3_measureOne_128 ⟨(Nat.le_of_ble_eq_true rfl), (Nat.le_of_ble_eq_true rfl)⟩) hP hD hS hA [1, 2] [0] rfl rfl (by decide) (by decide) (fun u7 H locs hP hD hS => ?_)
  have hP : va_P g.1 vwCl [(q7, .inl (g.2 0, 384, .inl f8)), (q4, .inl (g.2 0, 40, .inl (upd (upd f5 1 x10) 2 1))), (q1, .inr (5, [.ref q7, .ref q4]))] H := hP
  have hD : va_D A [(q7, .inl (g.2 0, 384, .inl f8)), (q4, .inl (g.2 0, 40, .inl (upd (upd f5 1 x10) 2 1))), (q1, .inr (5, [.ref q7, .ref q4]))] := hD
  refine lv_aload_n hx hb dX3_measureOne_131 rfl (lv_at hl 6 rfl) ?_
  refine lv_iload_n hx hb dX3_measureOne_132 rfl (lv_at hl 7 rfl) ?_
  refine lv_iconst (v := 4) hx hb dX3_measureOne_133 (by decide) ?_
  refine lv_iload hx hb dX3_measureOne_134 (lv_at hl 4 rfl) ?_
  refine g_v (wr := [(q7, .inl (g.2 0, 384, .inl f8))]) (rV (rest := []) hx hb hml hown hE hP hD 2 rfl rfl (c3_X3_putFigure l g q1 q4 (.ref q7) (upd (upd f5 1 x10) 2 1) H.size) (kV_X3_putFigure hE (e91 hE) rfl rfl ⟨(Nat.le_of_ble_eq_true rfl), (Nat.le_of_ble_eq_true rfl)⟩) [1, 2] rfl (by decide) rfl hl.1 rfl (lv_room (Nat.le_of_ble_eq_true rfl)) dX3_measureOne_136 ⟨(Nat.le_of_ble_eq_true rfl), (Nat.le_of_ble_eq_true rfl)⟩) hP hD hS hA [1, 2] [0] rfl rfl (by decide) (by decide) (fun u8 H locs hP hD hS => ?_)
  have hP : va_P g.1 vwCl [(q7, .inl (g.2 0, 384, .inl f8)), (q4, .inl (g.2 0, 40, .inl (upd (upd (upd f5 1 x10) 2 1) 4 1))), (q1, .inr (5, [.ref q7, .ref q4]))] H := hP
  have hD : va_D A [(q7, .inl (g.2 0, 384, .inl f8)), (q4, .inl (g.2 0, 40, .inl (upd (upd (upd f5 1 x10) 2 1) 4 1))), (q1, .inr (5, [.ref q7, .ref q4]))] := hD
  exact x_vret hx hb hr hlocks hP hD hS hAe hsz (Nat.le_of_ble_eq_true rfl) (Nat.le_of_ble_eq_true rfl) (fun _ => 0) [0, 1, 2] (by decide) rfl dX3_measureOne_139

set_option maxHeartbeats 4000000 in
set_option maxRecDepth 100000 in
theorem c145_X3_figure (l : Launch) (g : gG) (q1 q4 : Nat) (x7 : Int32) (w2 : Value) (f5 : Nat → Int32) (hf6 : f5 1 = x7) (sz : Nat) : Met l yX3_figure [Cond.code yX3_figure cX3_figure 4 (some .int)] ({ frames := 0, cells := 0, slots := 0, locals := 0 } : Room) (va_Pc [.ref q1, .int 0, .int 1] (PX g sz [(q4, .inl (g.2 0, 40, .inl f5)), (q1, .inr (5, [w2, .ref q4]))])) (QI g [(q4, .inl (g.2 0, 40, .inl f5)), (q1, .inr (5, [w2, .ref q4]))] sz x7 (fun _ => [(q4, .inl (g.2 0, 40, .inl f5)), (q1, .inr (5, [w2, .ref q4]))])) 0 0 (va_A [(q4, .inl (g.2 0, 40, .inl f5)), (q1, .inr (5, [w2, .ref q4]))] sz) := by
  refine ofN (by decide) (Nat.le_of_ble_eq_true rfl) rfl ?_
  intro p e s m args below meth c A ls hAe hsz hx hb hml hr hlocks hin hown hE hP hD hA hS hl
  have hown : s.vm.findClass RX3 = some m.cls := hown
  refine lv_iload_n hx hb dX3_figure_0 rfl (lv_at hl 1 rfl) ?_
  refine lv_iconst (v := 5) hx hb dX3_figure_1 (by decide) ?_
  refine x_imul (v := 0) hx hb dX3_figure_2 (by decide) ?_
  refine lv_iload_n hx hb dX3_figure_3 rfl (lv_at hl 2 rfl) ?_
  refine x_iadd (v := 1) hx hb dX3_figure_4 (by decide) ?_
  refine lv_istore_n (lv' := [(3, .int 1), (0, .ref q1), (1, .int 0), (2, .int 1)]) hx hb dX3_figure_5 rfl hl (by decide) rfl (fun ls hl => ?_)
  refine lv_iload_n hx hb dX3_figure_6 rfl (lv_at hl 0 rfl) ?_
  refine lv_if_lt (tgt := 28) hx hb dX3_figure_7 (by decide) (fun h => absurd h (by decide)) (fun _ => ?_)
  refine lv_iload_n hx hb dX3_figure_10 rfl (lv_at hl 0 rfl) ?_
  refine lv_aload_n hx hb dX3_figure_11 rfl (lv_at hl 1 rfl) ?_
  refine gf_RX3_15 hx hb hown hE hP 1 rfl rfl dX3_figure_12 ?_
  refine x_aleni (v := 40) hx hb hE hP 0 rfl rfl dX3_figure_15 ?_
  refine lv_icmp_ge (tgt := 28) hx hb dX3_figure_16 (by decide) (fun h => absurd h (by decide)) (fun _ => ?_)
  refine lv_aload_n hx hb dX3_figure_19 rfl (lv_at hl 1 rfl) ?_
  refine gf_RX3_15 hx hb hown hE hP 1 rfl rfl dX3_figure_20 ?_
  refine lv_iload_n hx hb dX3_figure_23 rfl (lv_at hl 0 rfl) ?_
  refine x_iald (v := x7) hx hb hE hP 0 rfl 1 (x_in (by decide)) (by decide) hf6 dX3_figure_24 ?_
  refine lv_goto (tgt := 29) hx hb dX3_figure_25 (by decide) ?_
  exact x_zret hx hb hr rfl rfl hlocks hP hD hS hAe hsz (Nat.le_of_ble_eq_true rfl) (Nat.le_of_ble_eq_true rfl) (fun _ => 0) [0, 1] (by decide) rfl dX3_figure_29

set_option maxHeartbeats 4000000 in
set_option maxRecDepth 100000 in
theorem c146_X3_figure (l : Launch) (g : gG) (q1 q4 : Nat) (w2 : Value) (f5 : Nat → Int32) (hf6 : f5 5 = 0) (sz : Nat) : Met l yX3_figure [Cond.code yX3_figure cX3_figure 4 (some .int)] ({ frames := 0, cells := 0, slots := 0, locals := 0 } : Room) (va_Pc [.ref q1, .int 1, .int 0] (PX g sz [(q4, .inl (g.2 0, 40, .inl f5)), (q1, .inr (5, [w2, .ref q4]))])) (QI g [(q4, .inl (g.2 0, 40, .inl f5)), (q1, .inr (5, [w2, .ref q4]))] sz 0 (fun _ => [(q4, .inl (g.2 0, 40, .inl f5)), (q1, .inr (5, [w2, .ref q4]))])) 0 0 (va_A [(q4, .inl (g.2 0, 40, .inl f5)), (q1, .inr (5, [w2, .ref q4]))] sz) := by
  refine ofN (by decide) (Nat.le_of_ble_eq_true rfl) rfl ?_
  intro p e s m args below meth c A ls hAe hsz hx hb hml hr hlocks hin hown hE hP hD hA hS hl
  have hown : s.vm.findClass RX3 = some m.cls := hown
  refine lv_iload_n hx hb dX3_figure_0 rfl (lv_at hl 1 rfl) ?_
  refine lv_iconst (v := 5) hx hb dX3_figure_1 (by decide) ?_
  refine x_imul (v := 5) hx hb dX3_figure_2 (by decide) ?_
  refine lv_iload_n hx hb dX3_figure_3 rfl (lv_at hl 2 rfl) ?_
  refine x_iadd (v := 5) hx hb dX3_figure_4 (by decide) ?_
  refine lv_istore_n (lv' := [(3, .int 5), (0, .ref q1), (1, .int 1), (2, .int 0)]) hx hb dX3_figure_5 rfl hl (by decide) rfl (fun ls hl => ?_)
  refine lv_iload_n hx hb dX3_figure_6 rfl (lv_at hl 0 rfl) ?_
  refine lv_if_lt (tgt := 28) hx hb dX3_figure_7 (by decide) (fun h => absurd h (by decide)) (fun _ => ?_)
  refine lv_iload_n hx hb dX3_figure_10 rfl (lv_at hl 0 rfl) ?_
  refine lv_aload_n hx hb dX3_figure_11 rfl (lv_at hl 1 rfl) ?_
  refine gf_RX3_15 hx hb hown hE hP 1 rfl rfl dX3_figure_12 ?_
  refine x_aleni (v := 40) hx hb hE hP 0 rfl rfl dX3_figure_15 ?_
  refine lv_icmp_ge (tgt := 28) hx hb dX3_figure_16 (by decide) (fun h => absurd h (by decide)) (fun _ => ?_)
  refine lv_aload_n hx hb dX3_figure_19 rfl (lv_at hl 1 rfl) ?_
  refine gf_RX3_15 hx hb hown hE hP 1 rfl rfl dX3_figure_20 ?_
  refine lv_iload_n hx hb dX3_figure_23 rfl (lv_at hl 0 rfl) ?_
  refine x_iald (v := 0) hx hb hE hP 0 rfl 5 (x_in (by decide)) (by decide) hf6 dX3_figure_24 ?_
  refine lv_goto (tgt := 29) hx hb dX3_figure_25 (by decide) ?_
  exact x_zret hx hb hr rfl rfl hlocks hP hD hS hAe hsz (Nat.le_of_ble_eq_true rfl) (Nat.le_of_ble_eq_true rfl) (fun _ => 0) [0, 1] (by decide) rfl dX3_figure_29

set_option maxHeartbeats 4000000 in
set_option maxRecDepth 100000 in
theorem c147_X3_putFigure (l : Launch) (g : gG) (q1 q4 : Nat) (w2 : Value) (f5 : Nat → Int32) (hf6 : f5 6 = 0) (sz : Nat) : Met l yX3_putFigure [Cond.code yX3_putFigure cX3_putFigure 5 none] ({ frames := 0, cells := 0, slots := 0, locals := 0 } : Room) (va_Pc [.ref q1, .int 1, .int 1, .int 0] (PX g sz [(q4, .inl (g.2 0, 40, .inl f5)), (q1, .inr (5, [w2, .ref q4]))])) (QV g [(q4, .inl (g.2 0, 40, .inl f5)), (q1, .inr (5, [w2, .ref q4]))] sz (fun _ => [(q4, .inl (g.2 0, 40, .inl f5)), (q1, .inr (5, [w2, .ref q4]))])) 0 0 (va_A [(q4, .inl (g.2 0, 40, .inl f5)), (q1, .inr (5, [w2, .ref q4]))] sz) := by
  refine ofN (by decide) (Nat.le_of_ble_eq_true rfl) rfl ?_
  intro p e s m args below meth c A ls hAe hsz hx hb hml hr hlocks hin hown hE hP hD hA hS hl
  have hown : s.vm.findClass RX3 = some m.cls := hown
  refine lv_iload_n hx hb dX3_putFigure_0 rfl (lv_at hl 1 rfl) ?_
  refine lv_iconst (v := 5) hx hb dX3_putFigure_1 (by decide) ?_
  refine x_imul (v := 5) hx hb dX3_putFigure_2 (by decide) ?_
  refine lv_iload_n hx hb dX3_putFigure_3 rfl (lv_at hl 2 rfl) ?_
  refine x_iadd (v := 6) hx hb dX3_putFigure_4 (by decide) ?_
  refine lv_istore (lv' := [(4, .int 6), (0, .ref q1), (1, .int 1), (2, .int 1), (3, .int 0)]) hx hb dX3_putFigure_5 hl (by decide) rfl (fun ls hl => ?_)
  refine lv_iload hx hb dX3_putFigure_7 (lv_at hl 0 rfl) ?_
  refine lv_if_lt (tgt := 30) hx hb dX3_putFigure_9 (by decide) (fun h => absurd h (by decide)) (fun _ => ?_)
  refine lv_iload hx hb dX3_putFigure_12 (lv_at hl 0 rfl) ?_
  refine lv_aload_n hx hb dX3_putFigure_14 rfl (lv_at hl 1 rfl) ?_
  refine gf_RX3_15 hx hb hown hE hP 1 rfl rfl dX3_putFigure_15 ?_
  refine x_aleni (v := 40) hx hb hE hP 0 rfl rfl dX3_putFigure_18 ?_
  refine lv_icmp_ge (tgt := 30) hx hb dX3_putFigure_19 (by decide) (fun h => absurd h (by decide)) (fun _ => ?_)
  refine lv_aload_n hx hb dX3_putFigure_22 rfl (lv_at hl 1 rfl) ?_
  refine gf_RX3_15 hx hb hown hE hP 1 rfl rfl dX3_putFigure_23 ?_
  refine lv_iload hx hb dX3_putFigure_26 (lv_at hl 0 rfl) ?_
  refine lv_iload_n hx hb dX3_putFigure_28 rfl (lv_at hl 4 rfl) ?_
  refine x_iast_same hx hb hE hP hD hS 0 rfl 6 (x_in (by decide)) (by decide) hf6 dX3_putFigure_29 (fun H locs hP hD hS => ?_)
  exact x_vret hx hb hr hlocks hP hD hS hAe hsz (Nat.le_of_ble_eq_true rfl) (Nat.le_of_ble_eq_true rfl) (fun _ => 0) [0, 1] (by decide) rfl dX3_putFigure_30

set_option maxHeartbeats 4000000 in
set_option maxRecDepth 100000 in
theorem c148_X3_putFigure (l : Launch) (g : gG) (q1 q4 : Nat) (w2 : Value) (f5 : Nat → Int32) (hf6 : f5 7 = 0) (sz : Nat) : Met l yX3_putFigure [Cond.code yX3_putFigure cX3_putFigure 5 none] ({ frames := 0, cells := 0, slots := 0, locals := 0 } : Room) (va_Pc [.ref q1, .int 1, .int 2, .int 0] (PX g sz [(q4, .inl (g.2 0, 40, .inl f5)), (q1, .inr (5, [w2, .ref q4]))])) (QV g [(q4, .inl (g.2 0, 40, .inl f5)), (q1, .inr (5, [w2, .ref q4]))] sz (fun _ => [(q4, .inl (g.2 0, 40, .inl f5)), (q1, .inr (5, [w2, .ref q4]))])) 0 0 (va_A [(q4, .inl (g.2 0, 40, .inl f5)), (q1, .inr (5, [w2, .ref q4]))] sz) := by
  refine ofN (by decide) (Nat.le_of_ble_eq_true rfl) rfl ?_
  intro p e s m args below meth c A ls hAe hsz hx hb hml hr hlocks hin hown hE hP hD hA hS hl
  have hown : s.vm.findClass RX3 = some m.cls := hown
  refine lv_iload_n hx hb dX3_putFigure_0 rfl (lv_at hl 1 rfl) ?_
  refine lv_iconst (v := 5) hx hb dX3_putFigure_1 (by decide) ?_
  refine x_imul (v := 5) hx hb dX3_putFigure_2 (by decide) ?_
  refine lv_iload_n hx hb dX3_putFigure_3 rfl (lv_at hl 2 rfl) ?_
  refine x_iadd (v := 7) hx hb dX3_putFigure_4 (by decide) ?_
  refine lv_istore (lv' := [(4, .int 7), (0, .ref q1), (1, .int 1), (2, .int 2), (3, .int 0)]) hx hb dX3_putFigure_5 hl (by decide) rfl (fun ls hl => ?_)
  refine lv_iload hx hb dX3_putFigure_7 (lv_at hl 0 rfl) ?_
  refine lv_if_lt (tgt := 30) hx hb dX3_putFigure_9 (by decide) (fun h => absurd h (by decide)) (fun _ => ?_)
  refine lv_iload hx hb dX3_putFigure_12 (lv_at hl 0 rfl) ?_
  refine lv_aload_n hx hb dX3_putFigure_14 rfl (lv_at hl 1 rfl) ?_
  refine gf_RX3_15 hx hb hown hE hP 1 rfl rfl dX3_putFigure_15 ?_
  refine x_aleni (v := 40) hx hb hE hP 0 rfl rfl dX3_putFigure_18 ?_
  refine lv_icmp_ge (tgt := 30) hx hb dX3_putFigure_19 (by decide) (fun h => absurd h (by decide)) (fun _ => ?_)
  refine lv_aload_n hx hb dX3_putFigure_22 rfl (lv_at hl 1 rfl) ?_
  refine gf_RX3_15 hx hb hown hE hP 1 rfl rfl dX3_putFigure_23 ?_
  refine lv_iload hx hb dX3_putFigure_26 (lv_at hl 0 rfl) ?_
  refine lv_iload_n hx hb dX3_putFigure_28 rfl (lv_at hl 4 rfl) ?_
  refine x_iast_same hx hb hE hP hD hS 0 rfl 7 (x_in (by decide)) (by decide) hf6 dX3_putFigure_29 (fun H locs hP hD hS => ?_)
  exact x_vret hx hb hr hlocks hP hD hS hAe hsz (Nat.le_of_ble_eq_true rfl) (Nat.le_of_ble_eq_true rfl) (fun _ => 0) [0, 1] (by decide) rfl dX3_putFigure_30

set_option maxHeartbeats 4000000 in
set_option maxRecDepth 100000 in
theorem c149_X3_putFigure (l : Launch) (g : gG) (q1 q4 : Nat) (w2 : Value) (f5 : Nat → Int32) (hf6 : f5 8 = 0) (sz : Nat) : Met l yX3_putFigure [Cond.code yX3_putFigure cX3_putFigure 5 none] ({ frames := 0, cells := 0, slots := 0, locals := 0 } : Room) (va_Pc [.ref q1, .int 1, .int 3, .int 0] (PX g sz [(q4, .inl (g.2 0, 40, .inl f5)), (q1, .inr (5, [w2, .ref q4]))])) (QV g [(q4, .inl (g.2 0, 40, .inl f5)), (q1, .inr (5, [w2, .ref q4]))] sz (fun _ => [(q4, .inl (g.2 0, 40, .inl f5)), (q1, .inr (5, [w2, .ref q4]))])) 0 0 (va_A [(q4, .inl (g.2 0, 40, .inl f5)), (q1, .inr (5, [w2, .ref q4]))] sz) := by
  refine ofN (by decide) (Nat.le_of_ble_eq_true rfl) rfl ?_
  intro p e s m args below meth c A ls hAe hsz hx hb hml hr hlocks hin hown hE hP hD hA hS hl
  have hown : s.vm.findClass RX3 = some m.cls := hown
  refine lv_iload_n hx hb dX3_putFigure_0 rfl (lv_at hl 1 rfl) ?_
  refine lv_iconst (v := 5) hx hb dX3_putFigure_1 (by decide) ?_
  refine x_imul (v := 5) hx hb dX3_putFigure_2 (by decide) ?_
  refine lv_iload_n hx hb dX3_putFigure_3 rfl (lv_at hl 2 rfl) ?_
  refine x_iadd (v := 8) hx hb dX3_putFigure_4 (by decide) ?_
  refine lv_istore (lv' := [(4, .int 8), (0, .ref q1), (1, .int 1), (2, .int 3), (3, .int 0)]) hx hb dX3_putFigure_5 hl (by decide) rfl (fun ls hl => ?_)
  refine lv_iload hx hb dX3_putFigure_7 (lv_at hl 0 rfl) ?_
  refine lv_if_lt (tgt := 30) hx hb dX3_putFigure_9 (by decide) (fun h => absurd h (by decide)) (fun _ => ?_)
  refine lv_iload hx hb dX3_putFigure_12 (lv_at hl 0 rfl) ?_
  refine lv_aload_n hx hb dX3_putFigure_14 rfl (lv_at hl 1 rfl) ?_
  refine gf_RX3_15 hx hb hown hE hP 1 rfl rfl dX3_putFigure_15 ?_
  refine x_aleni (v := 40) hx hb hE hP 0 rfl rfl dX3_putFigure_18 ?_
  refine lv_icmp_ge (tgt := 30) hx hb dX3_putFigure_19 (by decide) (fun h => absurd h (by decide)) (fun _ => ?_)
  refine lv_aload_n hx hb dX3_putFigure_22 rfl (lv_at hl 1 rfl) ?_
  refine gf_RX3_15 hx hb hown hE hP 1 rfl rfl dX3_putFigure_23 ?_
  refine lv_iload hx hb dX3_putFigure_26 (lv_at hl 0 rfl) ?_
  refine lv_iload_n hx hb dX3_putFigure_28 rfl (lv_at hl 4 rfl) ?_
  refine x_iast_same hx hb hE hP hD hS 0 rfl 8 (x_in (by decide)) (by decide) hf6 dX3_putFigure_29 (fun H locs hP hD hS => ?_)
  exact x_vret hx hb hr hlocks hP hD hS hAe hsz (Nat.le_of_ble_eq_true rfl) (Nat.le_of_ble_eq_true rfl) (fun _ => 0) [0, 1] (by decide) rfl dX3_putFigure_30

set_option maxHeartbeats 4000000 in
set_option maxRecDepth 100000 in
theorem c150_X3_measureOne (l : Launch) (g : gG) (q1 q4 : Nat) (w2 : Value) (f5 : Nat → Int32) (hf6 : f5 5 = 0) (hf7 : f5 6 = 0) (hf8 : f5 7 = 0) (hf9 : f5 8 = 0) (sz : Nat) : Met l yX3_measureOne [Cond.code yX3_measureOne cX3_measureOne 9 none] ({ frames := 1, cells := 0, slots := 0, locals := 24 } : Room) (va_Pc [.ref q1, .int 1] (PX g sz [(q4, .inl (g.2 0, 40, .inl f5)), (q1, .inr (5, [w2, .ref q4]))])) (QV g [(q4, .inl (g.2 0, 40, .inl f5)), (q1, .inr (5, [w2, .ref q4]))] sz (fun _ => [(q4, .inl (g.2 0, 40, .inl (upd f5 9 1))), (q1, .inr (5, [w2, .ref q4]))])) 0 0 (va_A [(q4, .inl (g.2 0, 40, .inl f5)), (q1, .inr (5, [w2, .ref q4]))] sz) := by
  refine ofN (by decide) (Nat.le_of_ble_eq_true rfl) rfl ?_
  intro p e s m args below meth c A ls hAe hsz hx hb hml hr hlocks hin hown hE hP hD hA hS hl
  have hown : s.vm.findClass RX3 = some m.cls := hown
  refine lv_iconst (v := 0) hx hb dX3_measureOne_0 (by decide) ?_
  refine lv_istore_n (lv' := [(2, .int 0), (0, .ref q1), (1, .int 1)]) hx hb dX3_measureOne_1 rfl hl (by decide) rfl (fun ls hl => ?_)
  refine lv_iconst (v := 0) hx hb dX3_measureOne_2 (by decide) ?_
  refine lv_istore_n (lv' := [(3, .int 0), (2, .int 0), (0, .ref q1), (1, .int 1)]) hx hb dX3_measureOne_3 rfl hl (by decide) rfl (fun ls hl => ?_)
  refine lv_iconst (v := 0) hx hb dX3_measureOne_4 (by decide) ?_
  refine lv_istore (lv' := [(4, .int 0), (3, .int 0), (2, .int 0), (0, .ref q1), (1, .int 1)]) hx hb dX3_measureOne_5 hl (by decide) rfl (fun ls hl => ?_)
  refine lv_iconst (v := 1) hx hb dX3_measureOne_7 (by decide) ?_
  refine lv_istore (lv' := [(5, .int 1), (4, .int 0), (3, .int 0), (2, .int 0), (0, .ref q1), (1, .int 1)]) hx hb dX3_measureOne_8 hl (by decide) rfl (fun ls hl => ?_)
  refine lv_aload_n hx hb dX3_measureOne_10 rfl (lv_at hl 4 rfl) ?_
  refine lv_iload_n hx hb dX3_measureOne_11 rfl (lv_at hl 5 rfl) ?_
  refine lv_iconst (v := 0) hx hb dX3_measureOne_12 (by decide) ?_
  refine g_i (wr := []) (rV (rest := []) hx hb hml hown hE hP hD 1 rfl rfl (c146_X3_figure l g q1 q4 w2 f5 (hf6) s.heap.size) (kV_X3_figure hE (e343 hE) rfl rfl ⟨(Nat.le_of_ble_eq_true rfl), (Nat.le_of_ble_eq_true rfl)⟩) [0, 1] rfl (by decide) rfl hl.1 rfl (lv_room (Nat.le_of_ble_eq_true rfl)) dX3_measureOne_13 ⟨(Nat.le_of_ble_eq_true rfl), (Nat.le_of_ble_eq_true rfl)⟩) hP hD hS hA [0, 1] [] rfl rfl (by decide) (by decide) (fun u1 H locs hP hD hS => ?_)
  have hP : va_P g.1 vwCl [(q4, .inl (g.2 0, 40, .inl f5)), (q1, .inr (5, [w2, .ref q4]))] H := hP
  have hD : va_D A [(q4, .inl (g.2 0, 40, .inl f5)), (q1, .inr (5, [w2, .ref q4]))] := hD
  refine lv_istore (lv' := [(6, .int 0), (5, .int 1), (4, .int 0), (3, .int 0), (2, .int 0), (0, .ref q1), (1, .int 1)]) hx hb dX3_measureOne_16 hl (by decide) rfl (fun ls hl => ?_)
  refine lv_iconst (v := 0) hx hb dX3_measureOne_18 (by decide) ?_
  refine lv_istore (lv' := [(7, .int 0), (6, .int 0), (5, .int 1), (4, .int 0), (3, .int 0), (2, .int 0), (0, .ref q1), (1, .int 1)]) hx hb dX3_measureOne_19 hl (by decide) rfl (fun ls hl => ?_)
  refine lv_iload hx hb dX3_measureOne_21 (lv_at hl 0 rfl) ?_
  refine lv_iload hx hb dX3_measureOne_23 (lv_at hl 1 rfl) ?_
  refine lv_icmp_ge (tgt := 109) hx hb dX3_measureOne_25 (by decide) (fun _ => ?_) (fun h => absurd (by decide) h)
  refine lv_aload_n hx hb dX3_measureOne_109 rfl (lv_at hl 6 rfl) ?_
  refine lv_iload_n hx hb dX3_measureOne_110 rfl (lv_at hl 7 rfl) ?_
  refine lv_iconst (v := 1) hx hb dX3_measureOne_111 (by decide) ?_
  refine lv_iload_n hx hb dX3_measureOne_112 rfl (lv_at hl 5 rfl) ?_
  refine g_v (wr := []) (rV (rest := []) hx hb hml hown hE hP hD 1 rfl rfl (c147_X3_putFigure l g q1 q4 w2 f5 (hf7) H.size) (kV_X3_putFigure hE (e91 hE) rfl rfl ⟨(Nat.le_of_ble_eq_true rfl), (Nat.le_of_ble_eq_true rfl)⟩) [0, 1] rfl (by decide) rfl hl.1 rfl (lv_room (Nat.le_of_ble_eq_true rfl)) dX3_measureOne_113 ⟨(Nat.le_of_ble_eq_true rfl), (Nat.le_of_ble_eq_true rfl)⟩) hP hD hS hA [0, 1] [] rfl rfl (by decide) (by decide) (fun u2 H locs hP hD hS => ?_)
  have hP : va_P g.1 vwCl [(q4, .inl (g.2 0, 40, .inl f5)), (q1, .inr (5, [w2, .ref q4]))] H := hP
  have hD : va_D A [(q4, .inl (g.2 0, 40, .inl f5)), (q1, .inr (5, [w2, .ref q4]))] := hD
  refine lv_aload_n hx hb dX3_measureOne_116 rfl (lv_at hl 6 rfl) ?_
  refine lv_iload_n hx hb dX3_measureOne_117 rfl (lv_at hl 7 rfl) ?_
  refine lv_iconst (v := 2) hx hb dX3_measureOne_118 (by decide) ?_
  refine lv_iload_n hx hb dX3_measureOne_119 rfl (lv_at hl 4 rfl) ?_
  refine g_v (wr := []) (rV (rest := []) hx hb hml hown hE hP hD 1 rfl rfl (c148_X3_putFigure l g q1 q4 w2 f5 (hf8) H.size) (kV_X3_putFigure hE (e91 hE) rfl rfl ⟨(Nat.le_of_ble_eq_true rfl), (Nat.le_of_ble_eq_true rfl)⟩) [0, 1] rfl (by decide) rfl hl.1 rfl (lv_room (Nat.le_of_ble_eq_true rfl)) dX3_measureOne_120 ⟨(Nat.le_of_ble_eq_true rfl), (Nat.le_of_ble_eq_true rfl)⟩) hP hD hS hA [0, 1] [] rfl rfl (by decide) (by decide) (fun u3 H locs hP hD hS => ?_)
  have hP : va_P g.1 vwCl [(q4, .inl (g.2 0, 40, .inl f5)), (q1, .inr (5, [w2, .ref q4]))] H := hP
  have hD : va_D A [(q4, .inl (g.2 0, 40, .inl f5)), (q1, .inr (5, [w2, .ref q4]))] := hD
  refine lv_aload_n hx hb dX3_measureOne_123 rfl (lv_at hl 6 rfl) ?_
  refine lv_iload_n hx hb dX3_measureOne_124 rfl (lv_at hl 7 rfl) ?_
  refine lv_iconst (v := 3) hx hb dX3_measureOne_125 (by decide) ?_
  refine lv_iload hx hb dX3_measureOne_126 (lv_at hl 3 rfl) ?_
  refine g_v (wr := []) (rV (rest := []) hx hb hml hown hE hP hD 1 rfl rfl (c149_X3_putFigure l g q1 q4 w2 f5 (hf9) H.size) (kV_X3_putFigure hE (e91 hE) rfl rfl ⟨(Nat.le_of_ble_eq_true rfl), (Nat.le_of_ble_eq_true rfl)⟩) [0, 1] rfl (by decide) rfl hl.1 rfl (lv_room (Nat.le_of_ble_eq_true rfl)) dX3_measureOne_128 ⟨(Nat.le_of_ble_eq_true rfl), (Nat.le_of_ble_eq_true rfl)⟩) hP hD hS hA [0, 1] [] rfl rfl (by decide) (by decide) (fun u4 H locs hP hD hS => ?_)
  have hP : va_P g.1 vwCl [(q4, .inl (g.2 0, 40, .inl f5)), (q1, .inr (5, [w2, .ref q4]))] H := hP
  have hD : va_D A [(q4, .inl (g.2 0, 40, .inl f5)), (q1, .inr (5, [w2, .ref q4]))] := hD
  refine lv_aload_n hx hb dX3_measureOne_131 rfl (lv_at hl 6 rfl) ?_
  refine lv_iload_n hx hb dX3_measureOne_132 rfl (lv_at hl 7 rfl) ?_
  refine lv_iconst (v := 4) hx hb dX3_measureOne_133 (by decide) ?_
  refine lv_iload hx hb dX3_measureOne_134 (lv_at hl 2 rfl) ?_
  refine g_v (wr := []) (rV (rest := []) hx hb hml hown hE hP hD 1 rfl rfl (c4_X3_putFigure l g q1 q4 w2 f5 H.size) (kV_X3_putFigure hE (e91 hE) rfl rfl ⟨(Nat.le_of_ble_eq_true rfl), (Nat.le_of_ble_eq_true rfl)⟩) [0, 1] rfl (by decide) rfl hl.1 rfl (lv_room (Nat.le_of_ble_eq_true rfl)) dX3_measureOne_136 ⟨(Nat.le_of_ble_eq_true rfl), (Nat.le_of_ble_eq_true rfl)⟩) hP hD hS hA [0, 1] [] rfl rfl (by decide) (by decide) (fun u5 H locs hP hD hS => ?_)
  have hP : va_P g.1 vwCl [(q4, .inl (g.2 0, 40, .inl (upd f5 9 1))), (q1, .inr (5, [w2, .ref q4]))] H := hP
  have hD : va_D A [(q4, .inl (g.2 0, 40, .inl (upd f5 9 1))), (q1, .inr (5, [w2, .ref q4]))] := hD
  exact x_vret hx hb hr hlocks hP hD hS hAe hsz (Nat.le_of_ble_eq_true rfl) (Nat.le_of_ble_eq_true rfl) (fun _ => 0) [0, 1] (by decide) rfl dX3_measureOne_139

set_option maxHeartbeats 4000000 in
set_option maxRecDepth 100000 in
theorem c151_X3_figure (l : Launch) (g : gG) (q1 q4 : Nat) (w2 : Value) (f5 : Nat → Int32) (hf6 : f5 6 = 0) (sz : Nat) : Met l yX3_figure [Cond.code yX3_figure cX3_figure 4 (some .int)] ({ frames := 0, cells := 0, slots := 0, locals := 0 } : Room) (va_Pc [.ref q1, .int 1, .int 1] (PX g sz [(q4, .inl (g.2 0, 40, .inl f5)), (q1, .inr (5, [w2, .ref q4]))])) (QI g [(q4, .inl (g.2 0, 40, .inl f5)), (q1, .inr (5, [w2, .ref q4]))] sz 0 (fun _ => [(q4, .inl (g.2 0, 40, .inl f5)), (q1, .inr (5, [w2, .ref q4]))])) 0 0 (va_A [(q4, .inl (g.2 0, 40, .inl f5)), (q1, .inr (5, [w2, .ref q4]))] sz) := by
  refine ofN (by decide) (Nat.le_of_ble_eq_true rfl) rfl ?_
  intro p e s m args below meth c A ls hAe hsz hx hb hml hr hlocks hin hown hE hP hD hA hS hl
  have hown : s.vm.findClass RX3 = some m.cls := hown
  refine lv_iload_n hx hb dX3_figure_0 rfl (lv_at hl 1 rfl) ?_
  refine lv_iconst (v := 5) hx hb dX3_figure_1 (by decide) ?_
  refine x_imul (v := 5) hx hb dX3_figure_2 (by decide) ?_
  refine lv_iload_n hx hb dX3_figure_3 rfl (lv_at hl 2 rfl) ?_
  refine x_iadd (v := 6) hx hb dX3_figure_4 (by decide) ?_
  refine lv_istore_n (lv' := [(3, .int 6), (0, .ref q1), (1, .int 1), (2, .int 1)]) hx hb dX3_figure_5 rfl hl (by decide) rfl (fun ls hl => ?_)
  refine lv_iload_n hx hb dX3_figure_6 rfl (lv_at hl 0 rfl) ?_
  refine lv_if_lt (tgt := 28) hx hb dX3_figure_7 (by decide) (fun h => absurd h (by decide)) (fun _ => ?_)
  refine lv_iload_n hx hb dX3_figure_10 rfl (lv_at hl 0 rfl) ?_
  refine lv_aload_n hx hb dX3_figure_11 rfl (lv_at hl 1 rfl) ?_
  refine gf_RX3_15 hx hb hown hE hP 1 rfl rfl dX3_figure_12 ?_
  refine x_aleni (v := 40) hx hb hE hP 0 rfl rfl dX3_figure_15 ?_
  refine lv_icmp_ge (tgt := 28) hx hb dX3_figure_16 (by decide) (fun h => absurd h (by decide)) (fun _ => ?_)
  refine lv_aload_n hx hb dX3_figure_19 rfl (lv_at hl 1 rfl) ?_
  refine gf_RX3_15 hx hb hown hE hP 1 rfl rfl dX3_figure_20 ?_
  refine lv_iload_n hx hb dX3_figure_23 rfl (lv_at hl 0 rfl) ?_
  refine x_iald (v := 0) hx hb hE hP 0 rfl 6 (x_in (by decide)) (by decide) hf6 dX3_figure_24 ?_
  refine lv_goto (tgt := 29) hx hb dX3_figure_25 (by decide) ?_
  exact x_zret hx hb hr rfl rfl hlocks hP hD hS hAe hsz (Nat.le_of_ble_eq_true rfl) (Nat.le_of_ble_eq_true rfl) (fun _ => 0) [0, 1] (by decide) rfl dX3_figure_29

set_option maxHeartbeats 4000000 in
set_option maxRecDepth 100000 in
theorem c152_X3_figure (l : Launch) (g : gG) (q1 q4 : Nat) (w2 : Value) (f5 : Nat → Int32) (hf6 : f5 10 = 0) (sz : Nat) : Met l yX3_figure [Cond.code yX3_figure cX3_figure 4 (some .int)] ({ frames := 0, cells := 0, slots := 0, locals := 0 } : Room) (va_Pc [.ref q1, .int 2, .int 0] (PX g sz [(q4, .inl (g.2 0, 40, .inl f5)), (q1, .inr (5, [w2, .ref q4]))])) (QI g [(q4, .inl (g.2 0, 40, .inl f5)), (q1, .inr (5, [w2, .ref q4]))] sz 0 (fun _ => [(q4, .inl (g.2 0, 40, .inl f5)), (q1, .inr (5, [w2, .ref q4]))])) 0 0 (va_A [(q4, .inl (g.2 0, 40, .inl f5)), (q1, .inr (5, [w2, .ref q4]))] sz) := by
  refine ofN (by decide) (Nat.le_of_ble_eq_true rfl) rfl ?_
  intro p e s m args below meth c A ls hAe hsz hx hb hml hr hlocks hin hown hE hP hD hA hS hl
  have hown : s.vm.findClass RX3 = some m.cls := hown
  refine lv_iload_n hx hb dX3_figure_0 rfl (lv_at hl 1 rfl) ?_
  refine lv_iconst (v := 5) hx hb dX3_figure_1 (by decide) ?_
  refine x_imul (v := 10) hx hb dX3_figure_2 (by decide) ?_
  refine lv_iload_n hx hb dX3_figure_3 rfl (lv_at hl 2 rfl) ?_
  refine x_iadd (v := 10) hx hb dX3_figure_4 (by decide) ?_
  refine lv_istore_n (lv' := [(3, .int 10), (0, .ref q1), (1, .int 2), (2, .int 0)]) hx hb dX3_figure_5 rfl hl (by decide) rfl (fun ls hl => ?_)
  refine lv_iload_n hx hb dX3_figure_6 rfl (lv_at hl 0 rfl) ?_
  refine lv_if_lt (tgt := 28) hx hb dX3_figure_7 (by decide) (fun h => absurd h (by decide)) (fun _ => ?_)
  refine lv_iload_n hx hb dX3_figure_10 rfl (lv_at hl 0 rfl) ?_
  refine lv_aload_n hx hb dX3_figure_11 rfl (lv_at hl 1 rfl) ?_
  refine gf_RX3_15 hx hb hown hE hP 1 rfl rfl dX3_figure_12 ?_
  refine x_aleni (v := 40) hx hb hE hP 0 rfl rfl dX3_figure_15 ?_
  refine lv_icmp_ge (tgt := 28) hx hb dX3_figure_16 (by decide) (fun h => absurd h (by decide)) (fun _ => ?_)
  refine lv_aload_n hx hb dX3_figure_19 rfl (lv_at hl 1 rfl) ?_
  refine gf_RX3_15 hx hb hown hE hP 1 rfl rfl dX3_figure_20 ?_
  refine lv_iload_n hx hb dX3_figure_23 rfl (lv_at hl 0 rfl) ?_
  refine x_iald (v := 0) hx hb hE hP 0 rfl 10 (x_in (by decide)) (by decide) hf6 dX3_figure_24 ?_
  refine lv_goto (tgt := 29) hx hb dX3_figure_25 (by decide) ?_
  exact x_zret hx hb hr rfl rfl hlocks hP hD hS hAe hsz (Nat.le_of_ble_eq_true rfl) (Nat.le_of_ble_eq_true rfl) (fun _ => 0) [0, 1] (by decide) rfl dX3_figure_29

set_option maxHeartbeats 4000000 in
set_option maxRecDepth 100000 in
theorem c153_X3_putFigure (l : Launch) (g : gG) (q1 q4 : Nat) (w2 : Value) (f5 : Nat → Int32) (hf6 : f5 11 = 0) (sz : Nat) : Met l yX3_putFigure [Cond.code yX3_putFigure cX3_putFigure 5 none] ({ frames := 0, cells := 0, slots := 0, locals := 0 } : Room) (va_Pc [.ref q1, .int 2, .int 1, .int 0] (PX g sz [(q4, .inl (g.2 0, 40, .inl f5)), (q1, .inr (5, [w2, .ref q4]))])) (QV g [(q4, .inl (g.2 0, 40, .inl f5)), (q1, .inr (5, [w2, .ref q4]))] sz (fun _ => [(q4, .inl (g.2 0, 40, .inl f5)), (q1, .inr (5, [w2, .ref q4]))])) 0 0 (va_A [(q4, .inl (g.2 0, 40, .inl f5)), (q1, .inr (5, [w2, .ref q4]))] sz) := by
  refine ofN (by decide) (Nat.le_of_ble_eq_true rfl) rfl ?_
  intro p e s m args below meth c A ls hAe hsz hx hb hml hr hlocks hin hown hE hP hD hA hS hl
  have hown : s.vm.findClass RX3 = some m.cls := hown
  refine lv_iload_n hx hb dX3_putFigure_0 rfl (lv_at hl 1 rfl) ?_
  refine lv_iconst (v := 5) hx hb dX3_putFigure_1 (by decide) ?_
  refine x_imul (v := 10) hx hb dX3_putFigure_2 (by decide) ?_
  refine lv_iload_n hx hb dX3_putFigure_3 rfl (lv_at hl 2 rfl) ?_
  refine x_iadd (v := 11) hx hb dX3_putFigure_4 (by decide) ?_
  refine lv_istore (lv' := [(4, .int 11), (0, .ref q1), (1, .int 2), (2, .int 1), (3, .int 0)]) hx hb dX3_putFigure_5 hl (by decide) rfl (fun ls hl => ?_)
  refine lv_iload hx hb dX3_putFigure_7 (lv_at hl 0 rfl) ?_
  refine lv_if_lt (tgt := 30) hx hb dX3_putFigure_9 (by decide) (fun h => absurd h (by decide)) (fun _ => ?_)
  refine lv_iload hx hb dX3_putFigure_12 (lv_at hl 0 rfl) ?_
  refine lv_aload_n hx hb dX3_putFigure_14 rfl (lv_at hl 1 rfl) ?_
  refine gf_RX3_15 hx hb hown hE hP 1 rfl rfl dX3_putFigure_15 ?_
  refine x_aleni (v := 40) hx hb hE hP 0 rfl rfl dX3_putFigure_18 ?_
  refine lv_icmp_ge (tgt := 30) hx hb dX3_putFigure_19 (by decide) (fun h => absurd h (by decide)) (fun _ => ?_)
  refine lv_aload_n hx hb dX3_putFigure_22 rfl (lv_at hl 1 rfl) ?_
  refine gf_RX3_15 hx hb hown hE hP 1 rfl rfl dX3_putFigure_23 ?_
  refine lv_iload hx hb dX3_putFigure_26 (lv_at hl 0 rfl) ?_
  refine lv_iload_n hx hb dX3_putFigure_28 rfl (lv_at hl 4 rfl) ?_
  refine x_iast_same hx hb hE hP hD hS 0 rfl 11 (x_in (by decide)) (by decide) hf6 dX3_putFigure_29 (fun H locs hP hD hS => ?_)
  exact x_vret hx hb hr hlocks hP hD hS hAe hsz (Nat.le_of_ble_eq_true rfl) (Nat.le_of_ble_eq_true rfl) (fun _ => 0) [0, 1] (by decide) rfl dX3_putFigure_30

set_option maxHeartbeats 4000000 in
set_option maxRecDepth 100000 in
theorem c154_X3_putFigure (l : Launch) (g : gG) (q1 q4 : Nat) (w2 : Value) (f5 : Nat → Int32) (hf6 : f5 12 = 0) (sz : Nat) : Met l yX3_putFigure [Cond.code yX3_putFigure cX3_putFigure 5 none] ({ frames := 0, cells := 0, slots := 0, locals := 0 } : Room) (va_Pc [.ref q1, .int 2, .int 2, .int 0] (PX g sz [(q4, .inl (g.2 0, 40, .inl f5)), (q1, .inr (5, [w2, .ref q4]))])) (QV g [(q4, .inl (g.2 0, 40, .inl f5)), (q1, .inr (5, [w2, .ref q4]))] sz (fun _ => [(q4, .inl (g.2 0, 40, .inl f5)), (q1, .inr (5, [w2, .ref q4]))])) 0 0 (va_A [(q4, .inl (g.2 0, 40, .inl f5)), (q1, .inr (5, [w2, .ref q4]))] sz) := by
  refine ofN (by decide) (Nat.le_of_ble_eq_true rfl) rfl ?_
  intro p e s m args below meth c A ls hAe hsz hx hb hml hr hlocks hin hown hE hP hD hA hS hl
  have hown : s.vm.findClass RX3 = some m.cls := hown
  refine lv_iload_n hx hb dX3_putFigure_0 rfl (lv_at hl 1 rfl) ?_
  refine lv_iconst (v := 5) hx hb dX3_putFigure_1 (by decide) ?_
  refine x_imul (v := 10) hx hb dX3_putFigure_2 (by decide) ?_
  refine lv_iload_n hx hb dX3_putFigure_3 rfl (lv_at hl 2 rfl) ?_
  refine x_iadd (v := 12) hx hb dX3_putFigure_4 (by decide) ?_
  refine lv_istore (lv' := [(4, .int 12), (0, .ref q1), (1, .int 2), (2, .int 2), (3, .int 0)]) hx hb dX3_putFigure_5 hl (by decide) rfl (fun ls hl => ?_)
  refine lv_iload hx hb dX3_putFigure_7 (lv_at hl 0 rfl) ?_
  refine lv_if_lt (tgt := 30) hx hb dX3_putFigure_9 (by decide) (fun h => absurd h (by decide)) (fun _ => ?_)
  refine lv_iload hx hb dX3_putFigure_12 (lv_at hl 0 rfl) ?_
  refine lv_aload_n hx hb dX3_putFigure_14 rfl (lv_at hl 1 rfl) ?_
  refine gf_RX3_15 hx hb hown hE hP 1 rfl rfl dX3_putFigure_15 ?_
  refine x_aleni (v := 40) hx hb hE hP 0 rfl rfl dX3_putFigure_18 ?_
  refine lv_icmp_ge (tgt := 30) hx hb dX3_putFigure_19 (by decide) (fun h => absurd h (by decide)) (fun _ => ?_)
  refine lv_aload_n hx hb dX3_putFigure_22 rfl (lv_at hl 1 rfl) ?_
  refine gf_RX3_15 hx hb hown hE hP 1 rfl rfl dX3_putFigure_23 ?_
  refine lv_iload hx hb dX3_putFigure_26 (lv_at hl 0 rfl) ?_
  refine lv_iload_n hx hb dX3_putFigure_28 rfl (lv_at hl 4 rfl) ?_
  refine x_iast_same hx hb hE hP hD hS 0 rfl 12 (x_in (by decide)) (by decide) hf6 dX3_putFigure_29 (fun H locs hP hD hS => ?_)
  exact x_vret hx hb hr hlocks hP hD hS hAe hsz (Nat.le_of_ble_eq_true rfl) (Nat.le_of_ble_eq_true rfl) (fun _ => 0) [0, 1] (by decide) rfl dX3_putFigure_30

set_option maxHeartbeats 4000000 in
set_option maxRecDepth 100000 in
theorem c155_X3_putFigure (l : Launch) (g : gG) (q1 q4 : Nat) (w2 : Value) (f5 : Nat → Int32) (hf6 : f5 13 = 0) (sz : Nat) : Met l yX3_putFigure [Cond.code yX3_putFigure cX3_putFigure 5 none] ({ frames := 0, cells := 0, slots := 0, locals := 0 } : Room) (va_Pc [.ref q1, .int 2, .int 3, .int 0] (PX g sz [(q4, .inl (g.2 0, 40, .inl f5)), (q1, .inr (5, [w2, .ref q4]))])) (QV g [(q4, .inl (g.2 0, 40, .inl f5)), (q1, .inr (5, [w2, .ref q4]))] sz (fun _ => [(q4, .inl (g.2 0, 40, .inl f5)), (q1, .inr (5, [w2, .ref q4]))])) 0 0 (va_A [(q4, .inl (g.2 0, 40, .inl f5)), (q1, .inr (5, [w2, .ref q4]))] sz) := by
  refine ofN (by decide) (Nat.le_of_ble_eq_true rfl) rfl ?_
  intro p e s m args below meth c A ls hAe hsz hx hb hml hr hlocks hin hown hE hP hD hA hS hl
  have hown : s.vm.findClass RX3 = some m.cls := hown
  refine lv_iload_n hx hb dX3_putFigure_0 rfl (lv_at hl 1 rfl) ?_
  refine lv_iconst (v := 5) hx hb dX3_putFigure_1 (by decide) ?_
  refine x_imul (v := 10) hx hb dX3_putFigure_2 (by decide) ?_
  refine lv_iload_n hx hb dX3_putFigure_3 rfl (lv_at hl 2 rfl) ?_
  refine x_iadd (v := 13) hx hb dX3_putFigure_4 (by decide) ?_
  refine lv_istore (lv' := [(4, .int 13), (0, .ref q1), (1, .int 2), (2, .int 3), (3, .int 0)]) hx hb dX3_putFigure_5 hl (by decide) rfl (fun ls hl => ?_)
  refine lv_iload hx hb dX3_putFigure_7 (lv_at hl 0 rfl) ?_
  refine lv_if_lt (tgt := 30) hx hb dX3_putFigure_9 (by decide) (fun h => absurd h (by decide)) (fun _ => ?_)
  refine lv_iload hx hb dX3_putFigure_12 (lv_at hl 0 rfl) ?_
  refine lv_aload_n hx hb dX3_putFigure_14 rfl (lv_at hl 1 rfl) ?_
  refine gf_RX3_15 hx hb hown hE hP 1 rfl rfl dX3_putFigure_15 ?_
  refine x_aleni (v := 40) hx hb hE hP 0 rfl rfl dX3_putFigure_18 ?_
  refine lv_icmp_ge (tgt := 30) hx hb dX3_putFigure_19 (by decide) (fun h => absurd h (by decide)) (fun _ => ?_)
  refine lv_aload_n hx hb dX3_putFigure_22 rfl (lv_at hl 1 rfl) ?_
  refine gf_RX3_15 hx hb hown hE hP 1 rfl rfl dX3_putFigure_23 ?_
  refine lv_iload hx hb dX3_putFigure_26 (lv_at hl 0 rfl) ?_
  refine lv_iload_n hx hb dX3_putFigure_28 rfl (lv_at hl 4 rfl) ?_
  refine x_iast_same hx hb hE hP hD hS 0 rfl 13 (x_in (by decide)) (by decide) hf6 dX3_putFigure_29 (fun H locs hP hD hS => ?_)
  exact x_vret hx hb hr hlocks hP hD hS hAe hsz (Nat.le_of_ble_eq_true rfl) (Nat.le_of_ble_eq_true rfl) (fun _ => 0) [0, 1] (by decide) rfl dX3_putFigure_30

set_option maxHeartbeats 4000000 in
set_option maxRecDepth 100000 in
theorem c156_X3_measureOne (l : Launch) (g : gG) (q1 q4 : Nat) (w2 : Value) (f5 : Nat → Int32) (hf6 : f5 10 = 0) (hf7 : f5 11 = 0) (hf8 : f5 12 = 0) (hf9 : f5 13 = 0) (sz : Nat) : Met l yX3_measureOne [Cond.code yX3_measureOne cX3_measureOne 9 none] ({ frames := 1, cells := 0, slots := 0, locals := 24 } : Room) (va_Pc [.ref q1, .int 2] (PX g sz [(q4, .inl (g.2 0, 40, .inl f5)), (q1, .inr (5, [w2, .ref q4]))])) (QV g [(q4, .inl (g.2 0, 40, .inl f5)), (q1, .inr (5, [w2, .ref q4]))] sz (fun _ => [(q4, .inl (g.2 0, 40, .inl (upd f5 14 1))), (q1, .inr (5, [w2, .ref q4]))])) 0 0 (va_A [(q4, .inl (g.2 0, 40, .inl f5)), (q1, .inr (5, [w2, .ref q4]))] sz) := by
  refine ofN (by decide) (Nat.le_of_ble_eq_true rfl) rfl ?_
  intro p e s m args below meth c A ls hAe hsz hx hb hml hr hlocks hin hown hE hP hD hA hS hl
  have hown : s.vm.findClass RX3 = some m.cls := hown
  refine lv_iconst (v := 0) hx hb dX3_measureOne_0 (by decide) ?_
  refine lv_istore_n (lv' := [(2, .int 0), (0, .ref q1), (1, .int 2)]) hx hb dX3_measureOne_1 rfl hl (by decide) rfl (fun ls hl => ?_)
  refine lv_iconst (v := 0) hx hb dX3_measureOne_2 (by decide) ?_
  refine lv_istore_n (lv' := [(3, .int 0), (2, .int 0), (0, .ref q1), (1, .int 2)]) hx hb dX3_measureOne_3 rfl hl (by decide) rfl (fun ls hl => ?_)
  refine lv_iconst (v := 0) hx hb dX3_measureOne_4 (by decide) ?_
  refine lv_istore (lv' := [(4, .int 0), (3, .int 0), (2, .int 0), (0, .ref q1), (1, .int 2)]) hx hb dX3_measureOne_5 hl (by decide) rfl (fun ls hl => ?_)
  refine lv_iconst (v := 1) hx hb dX3_measureOne_7 (by decide) ?_
  refine lv_istore (lv' := [(5, .int 1), (4, .int 0), (3, .int 0), (2, .int 0), (0, .ref q1), (1, .int 2)]) hx hb dX3_measureOne_8 hl (by decide) rfl (fun ls hl => ?_)
  refine lv_aload_n hx hb dX3_measureOne_10 rfl (lv_at hl 4 rfl) ?_
  refine lv_iload_n hx hb dX3_measureOne_11 rfl (lv_at hl 5 rfl) ?_
  refine lv_iconst (v := 0) hx hb dX3_measureOne_12 (by decide) ?_
  refine g_i (wr := []) (rV (rest := []) hx hb hml hown hE hP hD 1 rfl rfl (c152_X3_figure l g q1 q4 w2 f5 (hf6) s.heap.size) (kV_X3_figure hE (e343 hE) rfl rfl ⟨(Nat.le_of_ble_eq_true rfl), (Nat.le_of_ble_eq_true rfl)⟩) [0, 1] rfl (by decide) rfl hl.1 rfl (lv_room (Nat.le_of_ble_eq_true rfl)) dX3_measureOne_13 ⟨(Nat.le_of_ble_eq_true rfl), (Nat.le_of_ble_eq_true rfl)⟩) hP hD hS hA [0, 1] [] rfl rfl (by decide) (by decide) (fun u1 H locs hP hD hS => ?_)
  have hP : va_P g.1 vwCl [(q4, .inl (g.2 0, 40, .inl f5)), (q1, .inr (5, [w2, .ref q4]))] H := hP
  have hD : va_D A [(q4, .inl (g.2 0, 40, .inl f5)), (q1, .inr (5, [w2, .ref q4]))] := hD
  refine lv_istore (lv' := [(6, .int 0), (5, .int 1), (4, .int 0), (3, .int 0), (2, .int 0), (0, .ref q1), (1, .int 2)]) hx hb dX3_measureOne_16 hl (by decide) rfl (fun ls hl => ?_)
  refine lv_iconst (v := 0) hx hb dX3_measureOne_18 (by decide) ?_
  refine lv_istore (lv' := [(7, .int 0), (6, .int 0), (5, .int 1), (4, .int 0), (3, .int 0), (2, .int 0), (0, .ref q1), (1, .int 2)]) hx hb dX3_measureOne_19 hl (by decide) rfl (fun ls hl => ?_)
  refine lv_iload hx hb dX3_measureOne_21 (lv_at hl 0 rfl) ?_
  refine lv_iload hx hb dX3_measureOne_23 (lv_at hl 1 rfl) ?_
  refine lv_icmp_ge (tgt := 109) hx hb dX3_measureOne_25 (by decide) (fun _ => ?_) (fun h => absurd (by decide) h)
  refine lv_aload_n hx hb dX3_measureOne_109 rfl (lv_at hl 6 rfl) ?_
  refine lv_iload_n hx hb dX3_measureOne_110 rfl (lv_at hl 7 rfl) ?_
  refine lv_iconst (v := 1) hx hb dX3_measureOne_111 (by decide) ?_
  refine lv_iload_n hx hb dX3_measureOne_112 rfl (lv_at hl 5 rfl) ?_
  refine g_v (wr := []) (rV (rest := []) hx hb hml hown hE hP hD 1 rfl rfl (c153_X3_putFigure l g q1 q4 w2 f5 (hf7) H.size) (kV_X3_putFigure hE (e91 hE) rfl rfl ⟨(Nat.le_of_ble_eq_true rfl), (Nat.le_of_ble_eq_true rfl)⟩) [0, 1] rfl (by decide) rfl hl.1 rfl (lv_room (Nat.le_of_ble_eq_true rfl)) dX3_measureOne_113 ⟨(Nat.le_of_ble_eq_true rfl), (Nat.le_of_ble_eq_true rfl)⟩) hP hD hS hA [0, 1] [] rfl rfl (by decide) (by decide) (fun u2 H locs hP hD hS => ?_)
  have hP : va_P g.1 vwCl [(q4, .inl (g.2 0, 40, .inl f5)), (q1, .inr (5, [w2, .ref q4]))] H := hP
  have hD : va_D A [(q4, .inl (g.2 0, 40, .inl f5)), (q1, .inr (5, [w2, .ref q4]))] := hD
  refine lv_aload_n hx hb dX3_measureOne_116 rfl (lv_at hl 6 rfl) ?_
  refine lv_iload_n hx hb dX3_measureOne_117 rfl (lv_at hl 7 rfl) ?_
  refine lv_iconst (v := 2) hx hb dX3_measureOne_118 (by decide) ?_
  refine lv_iload_n hx hb dX3_measureOne_119 rfl (lv_at hl 4 rfl) ?_
  refine g_v (wr := []) (rV (rest := []) hx hb hml hown hE hP hD 1 rfl rfl (c154_X3_putFigure l g q1 q4 w2 f5 (hf8) H.size) (kV_X3_putFigure hE (e91 hE) rfl rfl ⟨(Nat.le_of_ble_eq_true rfl), (Nat.le_of_ble_eq_true rfl)⟩) [0, 1] rfl (by decide) rfl hl.1 rfl (lv_room (Nat.le_of_ble_eq_true rfl)) dX3_measureOne_120 ⟨(Nat.le_of_ble_eq_true rfl), (Nat.le_of_ble_eq_true rfl)⟩) hP hD hS hA [0, 1] [] rfl rfl (by decide) (by decide) (fun u3 H locs hP hD hS => ?_)
  have hP : va_P g.1 vwCl [(q4, .inl (g.2 0, 40, .inl f5)), (q1, .inr (5, [w2, .ref q4]))] H := hP
  have hD : va_D A [(q4, .inl (g.2 0, 40, .inl f5)), (q1, .inr (5, [w2, .ref q4]))] := hD
  refine lv_aload_n hx hb dX3_measureOne_123 rfl (lv_at hl 6 rfl) ?_
  refine lv_iload_n hx hb dX3_measureOne_124 rfl (lv_at hl 7 rfl) ?_
  refine lv_iconst (v := 3) hx hb dX3_measureOne_125 (by decide) ?_
  refine lv_iload hx hb dX3_measureOne_126 (lv_at hl 3 rfl) ?_
  refine g_v (wr := []) (rV (rest := []) hx hb hml hown hE hP hD 1 rfl rfl (c155_X3_putFigure l g q1 q4 w2 f5 (hf9) H.size) (kV_X3_putFigure hE (e91 hE) rfl rfl ⟨(Nat.le_of_ble_eq_true rfl), (Nat.le_of_ble_eq_true rfl)⟩) [0, 1] rfl (by decide) rfl hl.1 rfl (lv_room (Nat.le_of_ble_eq_true rfl)) dX3_measureOne_128 ⟨(Nat.le_of_ble_eq_true rfl), (Nat.le_of_ble_eq_true rfl)⟩) hP hD hS hA [0, 1] [] rfl rfl (by decide) (by decide) (fun u4 H locs hP hD hS => ?_)
  have hP : va_P g.1 vwCl [(q4, .inl (g.2 0, 40, .inl f5)), (q1, .inr (5, [w2, .ref q4]))] H := hP
  have hD : va_D A [(q4, .inl (g.2 0, 40, .inl f5)), (q1, .inr (5, [w2, .ref q4]))] := hD
  refine lv_aload_n hx hb dX3_measureOne_131 rfl (lv_at hl 6 rfl) ?_
  refine lv_iload_n hx hb dX3_measureOne_132 rfl (lv_at hl 7 rfl) ?_
  refine lv_iconst (v := 4) hx hb dX3_measureOne_133 (by decide) ?_
  refine lv_iload hx hb dX3_measureOne_134 (lv_at hl 2 rfl) ?_
  refine g_v (wr := []) (rV (rest := []) hx hb hml hown hE hP hD 1 rfl rfl (c5_X3_putFigure l g q1 q4 w2 f5 H.size) (kV_X3_putFigure hE (e91 hE) rfl rfl ⟨(Nat.le_of_ble_eq_true rfl), (Nat.le_of_ble_eq_true rfl)⟩) [0, 1] rfl (by decide) rfl hl.1 rfl (lv_room (Nat.le_of_ble_eq_true rfl)) dX3_measureOne_136 ⟨(Nat.le_of_ble_eq_true rfl), (Nat.le_of_ble_eq_true rfl)⟩) hP hD hS hA [0, 1] [] rfl rfl (by decide) (by decide) (fun u5 H locs hP hD hS => ?_)
  have hP : va_P g.1 vwCl [(q4, .inl (g.2 0, 40, .inl (upd f5 14 1))), (q1, .inr (5, [w2, .ref q4]))] H := hP
  have hD : va_D A [(q4, .inl (g.2 0, 40, .inl (upd f5 14 1))), (q1, .inr (5, [w2, .ref q4]))] := hD
  exact x_vret hx hb hr hlocks hP hD hS hAe hsz (Nat.le_of_ble_eq_true rfl) (Nat.le_of_ble_eq_true rfl) (fun _ => 0) [0, 1] (by decide) rfl dX3_measureOne_139

set_option maxHeartbeats 4000000 in
set_option maxRecDepth 100000 in
theorem c157_X3_figure (l : Launch) (g : gG) (q1 q4 : Nat) (w2 : Value) (f5 : Nat → Int32) (hf6 : f5 11 = 0) (sz : Nat) : Met l yX3_figure [Cond.code yX3_figure cX3_figure 4 (some .int)] ({ frames := 0, cells := 0, slots := 0, locals := 0 } : Room) (va_Pc [.ref q1, .int 2, .int 1] (PX g sz [(q4, .inl (g.2 0, 40, .inl f5)), (q1, .inr (5, [w2, .ref q4]))])) (QI g [(q4, .inl (g.2 0, 40, .inl f5)), (q1, .inr (5, [w2, .ref q4]))] sz 0 (fun _ => [(q4, .inl (g.2 0, 40, .inl f5)), (q1, .inr (5, [w2, .ref q4]))])) 0 0 (va_A [(q4, .inl (g.2 0, 40, .inl f5)), (q1, .inr (5, [w2, .ref q4]))] sz) := by
  refine ofN (by decide) (Nat.le_of_ble_eq_true rfl) rfl ?_
  intro p e s m args below meth c A ls hAe hsz hx hb hml hr hlocks hin hown hE hP hD hA hS hl
  have hown : s.vm.findClass RX3 = some m.cls := hown
  refine lv_iload_n hx hb dX3_figure_0 rfl (lv_at hl 1 rfl) ?_
  refine lv_iconst (v := 5) hx hb dX3_figure_1 (by decide) ?_
  refine x_imul (v := 10) hx hb dX3_figure_2 (by decide) ?_
  refine lv_iload_n hx hb dX3_figure_3 rfl (lv_at hl 2 rfl) ?_
  refine x_iadd (v := 11) hx hb dX3_figure_4 (by decide) ?_
  refine lv_istore_n (lv' := [(3, .int 11), (0, .ref q1), (1, .int 2), (2, .int 1)]) hx hb dX3_figure_5 rfl hl (by decide) rfl (fun ls hl => ?_)
  refine lv_iload_n hx hb dX3_figure_6 rfl (lv_at hl 0 rfl) ?_
  refine lv_if_lt (tgt := 28) hx hb dX3_figure_7 (by decide) (fun h => absurd h (by decide)) (fun _ => ?_)
  refine lv_iload_n hx hb dX3_figure_10 rfl (lv_at hl 0 rfl) ?_
  refine lv_aload_n hx hb dX3_figure_11 rfl (lv_at hl 1 rfl) ?_
  refine gf_RX3_15 hx hb hown hE hP 1 rfl rfl dX3_figure_12 ?_
  refine x_aleni (v := 40) hx hb hE hP 0 rfl rfl dX3_figure_15 ?_
  refine lv_icmp_ge (tgt := 28) hx hb dX3_figure_16 (by decide) (fun h => absurd h (by decide)) (fun _ => ?_)
  refine lv_aload_n hx hb dX3_figure_19 rfl (lv_at hl 1 rfl) ?_
  refine gf_RX3_15 hx hb hown hE hP 1 rfl rfl dX3_figure_20 ?_
  refine lv_iload_n hx hb dX3_figure_23 rfl (lv_at hl 0 rfl) ?_
  refine x_iald (v := 0) hx hb hE hP 0 rfl 11 (x_in (by decide)) (by decide) hf6 dX3_figure_24 ?_
  refine lv_goto (tgt := 29) hx hb dX3_figure_25 (by decide) ?_
  exact x_zret hx hb hr rfl rfl hlocks hP hD hS hAe hsz (Nat.le_of_ble_eq_true rfl) (Nat.le_of_ble_eq_true rfl) (fun _ => 0) [0, 1] (by decide) rfl dX3_figure_29

set_option maxHeartbeats 4000000 in
set_option maxRecDepth 100000 in
theorem c158_X3_figure (l : Launch) (g : gG) (q1 q4 : Nat) (w2 : Value) (f5 : Nat → Int32) (hf6 : f5 15 = 0) (sz : Nat) : Met l yX3_figure [Cond.code yX3_figure cX3_figure 4 (some .int)] ({ frames := 0, cells := 0, slots := 0, locals := 0 } : Room) (va_Pc [.ref q1, .int 3, .int 0] (PX g sz [(q4, .inl (g.2 0, 40, .inl f5)), (q1, .inr (5, [w2, .ref q4]))])) (QI g [(q4, .inl (g.2 0, 40, .inl f5)), (q1, .inr (5, [w2, .ref q4]))] sz 0 (fun _ => [(q4, .inl (g.2 0, 40, .inl f5)), (q1, .inr (5, [w2, .ref q4]))])) 0 0 (va_A [(q4, .inl (g.2 0, 40, .inl f5)), (q1, .inr (5, [w2, .ref q4]))] sz) := by
  refine ofN (by decide) (Nat.le_of_ble_eq_true rfl) rfl ?_
  intro p e s m args below meth c A ls hAe hsz hx hb hml hr hlocks hin hown hE hP hD hA hS hl
  have hown : s.vm.findClass RX3 = some m.cls := hown
  refine lv_iload_n hx hb dX3_figure_0 rfl (lv_at hl 1 rfl) ?_
  refine lv_iconst (v := 5) hx hb dX3_figure_1 (by decide) ?_
  refine x_imul (v := 15) hx hb dX3_figure_2 (by decide) ?_
  refine lv_iload_n hx hb dX3_figure_3 rfl (lv_at hl 2 rfl) ?_
  refine x_iadd (v := 15) hx hb dX3_figure_4 (by decide) ?_
  refine lv_istore_n (lv' := [(3, .int 15), (0, .ref q1), (1, .int 3), (2, .int 0)]) hx hb dX3_figure_5 rfl hl (by decide) rfl (fun ls hl => ?_)
  refine lv_iload_n hx hb dX3_figure_6 rfl (lv_at hl 0 rfl) ?_
  refine lv_if_lt (tgt := 28) hx hb dX3_figure_7 (by decide) (fun h => absurd h (by decide)) (fun _ => ?_)
  refine lv_iload_n hx hb dX3_figure_10 rfl (lv_at hl 0 rfl) ?_
  refine lv_aload_n hx hb dX3_figure_11 rfl (lv_at hl 1 rfl) ?_
  refine gf_RX3_15 hx hb hown hE hP 1 rfl rfl dX3_figure_12 ?_
  refine x_aleni (v := 40) hx hb hE hP 0 rfl rfl dX3_figure_15 ?_
  refine lv_icmp_ge (tgt := 28) hx hb dX3_figure_16 (by decide) (fun h => absurd h (by decide)) (fun _ => ?_)
  refine lv_aload_n hx hb dX3_figure_19 rfl (lv_at hl 1 rfl) ?_
  refine gf_RX3_15 hx hb hown hE hP 1 rfl rfl dX3_figure_20 ?_
  refine lv_iload_n hx hb dX3_figure_23 rfl (lv_at hl 0 rfl) ?_
  refine x_iald (v := 0) hx hb hE hP 0 rfl 15 (x_in (by decide)) (by decide) hf6 dX3_figure_24 ?_
  refine lv_goto (tgt := 29) hx hb dX3_figure_25 (by decide) ?_
  exact x_zret hx hb hr rfl rfl hlocks hP hD hS hAe hsz (Nat.le_of_ble_eq_true rfl) (Nat.le_of_ble_eq_true rfl) (fun _ => 0) [0, 1] (by decide) rfl dX3_figure_29

set_option maxHeartbeats 4000000 in
set_option maxRecDepth 100000 in
theorem c159_X3_putFigure (l : Launch) (g : gG) (q1 q4 : Nat) (w2 : Value) (f5 : Nat → Int32) (hf6 : f5 16 = 0) (sz : Nat) : Met l yX3_putFigure [Cond.code yX3_putFigure cX3_putFigure 5 none] ({ frames := 0, cells := 0, slots := 0, locals := 0 } : Room) (va_Pc [.ref q1, .int 3, .int 1, .int 0] (PX g sz [(q4, .inl (g.2 0, 40, .inl f5)), (q1, .inr (5, [w2, .ref q4]))])) (QV g [(q4, .inl (g.2 0, 40, .inl f5)), (q1, .inr (5, [w2, .ref q4]))] sz (fun _ => [(q4, .inl (g.2 0, 40, .inl f5)), (q1, .inr (5, [w2, .ref q4]))])) 0 0 (va_A [(q4, .inl (g.2 0, 40, .inl f5)), (q1, .inr (5, [w2, .ref q4]))] sz) := by
  refine ofN (by decide) (Nat.le_of_ble_eq_true rfl) rfl ?_
  intro p e s m args below meth c A ls hAe hsz hx hb hml hr hlocks hin hown hE hP hD hA hS hl
  have hown : s.vm.findClass RX3 = some m.cls := hown
  refine lv_iload_n hx hb dX3_putFigure_0 rfl (lv_at hl 1 rfl) ?_
  refine lv_iconst (v := 5) hx hb dX3_putFigure_1 (by decide) ?_
  refine x_imul (v := 15) hx hb dX3_putFigure_2 (by decide) ?_
  refine lv_iload_n hx hb dX3_putFigure_3 rfl (lv_at hl 2 rfl) ?_
  refine x_iadd (v := 16) hx hb dX3_putFigure_4 (by decide) ?_
  refine lv_istore (lv' := [(4, .int 16), (0, .ref q1), (1, .int 3), (2, .int 1), (3, .int 0)]) hx hb dX3_putFigure_5 hl (by decide) rfl (fun ls hl => ?_)
  refine lv_iload hx hb dX3_putFigure_7 (lv_at hl 0 rfl) ?_
  refine lv_if_lt (tgt := 30) hx hb dX3_putFigure_9 (by decide) (fun h => absurd h (by decide)) (fun _ => ?_)
  refine lv_iload hx hb dX3_putFigure_12 (lv_at hl 0 rfl) ?_
  refine lv_aload_n hx hb dX3_putFigure_14 rfl (lv_at hl 1 rfl) ?_
  refine gf_RX3_15 hx hb hown hE hP 1 rfl rfl dX3_putFigure_15 ?_
  refine x_aleni (v := 40) hx hb hE hP 0 rfl rfl dX3_putFigure_18 ?_
  refine lv_icmp_ge (tgt := 30) hx hb dX3_putFigure_19 (by decide) (fun h => absurd h (by decide)) (fun _ => ?_)
  refine lv_aload_n hx hb dX3_putFigure_22 rfl (lv_at hl 1 rfl) ?_
  refine gf_RX3_15 hx hb hown hE hP 1 rfl rfl dX3_putFigure_23 ?_
  refine lv_iload hx hb dX3_putFigure_26 (lv_at hl 0 rfl) ?_
  refine lv_iload_n hx hb dX3_putFigure_28 rfl (lv_at hl 4 rfl) ?_
  refine x_iast_same hx hb hE hP hD hS 0 rfl 16 (x_in (by decide)) (by decide) hf6 dX3_putFigure_29 (fun H locs hP hD hS => ?_)
  exact x_vret hx hb hr hlocks hP hD hS hAe hsz (Nat.le_of_ble_eq_true rfl) (Nat.le_of_ble_eq_true rfl) (fun _ => 0) [0, 1] (by decide) rfl dX3_putFigure_30

set_option maxHeartbeats 4000000 in
set_option maxRecDepth 100000 in
theorem c160_X3_putFigure (l : Launch) (g : gG) (q1 q4 : Nat) (w2 : Value) (f5 : Nat → Int32) (hf6 : f5 17 = 0) (sz : Nat) : Met l yX3_putFigure [Cond.code yX3_putFigure cX3_putFigure 5 none] ({ frames := 0, cells := 0, slots := 0, locals := 0 } : Room) (va_Pc [.ref q1, .int 3, .int 2, .int 0] (PX g sz [(q4, .inl (g.2 0, 40, .inl f5)), (q1, .inr (5, [w2, .ref q4]))])) (QV g [(q4, .inl (g.2 0, 40, .inl f5)), (q1, .inr (5, [w2, .ref q4]))] sz (fun _ => [(q4, .inl (g.2 0, 40, .inl f5)), (q1, .inr (5, [w2, .ref q4]))])) 0 0 (va_A [(q4, .inl (g.2 0, 40, .inl f5)), (q1, .inr (5, [w2, .ref q4]))] sz) := by
  refine ofN (by decide) (Nat.le_of_ble_eq_true rfl) rfl ?_
  intro p e s m args below meth c A ls hAe hsz hx hb hml hr hlocks hin hown hE hP hD hA hS hl
  have hown : s.vm.findClass RX3 = some m.cls := hown
  refine lv_iload_n hx hb dX3_putFigure_0 rfl (lv_at hl 1 rfl) ?_
  refine lv_iconst (v := 5) hx hb dX3_putFigure_1 (by decide) ?_
  refine x_imul (v := 15) hx hb dX3_putFigure_2 (by decide) ?_
  refine lv_iload_n hx hb dX3_putFigure_3 rfl (lv_at hl 2 rfl) ?_
  refine x_iadd (v := 17) hx hb dX3_putFigure_4 (by decide) ?_
  refine lv_istore (lv' := [(4, .int 17), (0, .ref q1), (1, .int 3), (2, .int 2), (3, .int 0)]) hx hb dX3_putFigure_5 hl (by decide) rfl (fun ls hl => ?_)
  refine lv_iload hx hb dX3_putFigure_7 (lv_at hl 0 rfl) ?_
  refine lv_if_lt (tgt := 30) hx hb dX3_putFigure_9 (by decide) (fun h => absurd h (by decide)) (fun _ => ?_)
  refine lv_iload hx hb dX3_putFigure_12 (lv_at hl 0 rfl) ?_
  refine lv_aload_n hx hb dX3_putFigure_14 rfl (lv_at hl 1 rfl) ?_
  refine gf_RX3_15 hx hb hown hE hP 1 rfl rfl dX3_putFigure_15 ?_
  refine x_aleni (v := 40) hx hb hE hP 0 rfl rfl dX3_putFigure_18 ?_
  refine lv_icmp_ge (tgt := 30) hx hb dX3_putFigure_19 (by decide) (fun h => absurd h (by decide)) (fun _ => ?_)
  refine lv_aload_n hx hb dX3_putFigure_22 rfl (lv_at hl 1 rfl) ?_
  refine gf_RX3_15 hx hb hown hE hP 1 rfl rfl dX3_putFigure_23 ?_
  refine lv_iload hx hb dX3_putFigure_26 (lv_at hl 0 rfl) ?_
  refine lv_iload_n hx hb dX3_putFigure_28 rfl (lv_at hl 4 rfl) ?_
  refine x_iast_same hx hb hE hP hD hS 0 rfl 17 (x_in (by decide)) (by decide) hf6 dX3_putFigure_29 (fun H locs hP hD hS => ?_)
  exact x_vret hx hb hr hlocks hP hD hS hAe hsz (Nat.le_of_ble_eq_true rfl) (Nat.le_of_ble_eq_true rfl) (fun _ => 0) [0, 1] (by decide) rfl dX3_putFigure_30

set_option maxHeartbeats 4000000 in
set_option maxRecDepth 100000 in
theorem c161_X3_putFigure (l : Launch) (g : gG) (q1 q4 : Nat) (w2 : Value) (f5 : Nat → Int32) (hf6 : f5 18 = 0) (sz : Nat) : Met l yX3_putFigure [Cond.code yX3_putFigure cX3_putFigure 5 none] ({ frames := 0, cells := 0, slots := 0, locals := 0 } : Room) (va_Pc [.ref q1, .int 3, .int 3, .int 0] (PX g sz [(q4, .inl (g.2 0, 40, .inl f5)), (q1, .inr (5, [w2, .ref q4]))])) (QV g [(q4, .inl (g.2 0, 40, .inl f5)), (q1, .inr (5, [w2, .ref q4]))] sz (fun _ => [(q4, .inl (g.2 0, 40, .inl f5)), (q1, .inr (5, [w2, .ref q4]))])) 0 0 (va_A [(q4, .inl (g.2 0, 40, .inl f5)), (q1, .inr (5, [w2, .ref q4]))] sz) := by
  refine ofN (by decide) (Nat.le_of_ble_eq_true rfl) rfl ?_
  intro p e s m args below meth c A ls hAe hsz hx hb hml hr hlocks hin hown hE hP hD hA hS hl
  have hown : s.vm.findClass RX3 = some m.cls := hown
  refine lv_iload_n hx hb dX3_putFigure_0 rfl (lv_at hl 1 rfl) ?_
  refine lv_iconst (v := 5) hx hb dX3_putFigure_1 (by decide) ?_
  refine x_imul (v := 15) hx hb dX3_putFigure_2 (by decide) ?_
  refine lv_iload_n hx hb dX3_putFigure_3 rfl (lv_at hl 2 rfl) ?_
  refine x_iadd (v := 18) hx hb dX3_putFigure_4 (by decide) ?_
  refine lv_istore (lv' := [(4, .int 18), (0, .ref q1), (1, .int 3), (2, .int 3), (3, .int 0)]) hx hb dX3_putFigure_5 hl (by decide) rfl (fun ls hl => ?_)
  refine lv_iload hx hb dX3_putFigure_7 (lv_at hl 0 rfl) ?_
  refine lv_if_lt (tgt := 30) hx hb dX3_putFigure_9 (by decide) (fun h => absurd h (by decide)) (fun _ => ?_)
  refine lv_iload hx hb dX3_putFigure_12 (lv_at hl 0 rfl) ?_
  refine lv_aload_n hx hb dX3_putFigure_14 rfl (lv_at hl 1 rfl) ?_
  refine gf_RX3_15 hx hb hown hE hP 1 rfl rfl dX3_putFigure_15 ?_
  refine x_aleni (v := 40) hx hb hE hP 0 rfl rfl dX3_putFigure_18 ?_
  refine lv_icmp_ge (tgt := 30) hx hb dX3_putFigure_19 (by decide) (fun h => absurd h (by decide)) (fun _ => ?_)
  refine lv_aload_n hx hb dX3_putFigure_22 rfl (lv_at hl 1 rfl) ?_
  refine gf_RX3_15 hx hb hown hE hP 1 rfl rfl dX3_putFigure_23 ?_
  refine lv_iload hx hb dX3_putFigure_26 (lv_at hl 0 rfl) ?_
  refine lv_iload_n hx hb dX3_putFigure_28 rfl (lv_at hl 4 rfl) ?_
  refine x_iast_same hx hb hE hP hD hS 0 rfl 18 (x_in (by decide)) (by decide) hf6 dX3_putFigure_29 (fun H locs hP hD hS => ?_)
  exact x_vret hx hb hr hlocks hP hD hS hAe hsz (Nat.le_of_ble_eq_true rfl) (Nat.le_of_ble_eq_true rfl) (fun _ => 0) [0, 1] (by decide) rfl dX3_putFigure_30

set_option maxHeartbeats 4000000 in
set_option maxRecDepth 100000 in
theorem c162_X3_measureOne (l : Launch) (g : gG) (q1 q4 : Nat) (w2 : Value) (f5 : Nat → Int32) (hf6 : f5 15 = 0) (hf7 : f5 16 = 0) (hf8 : f5 17 = 0) (hf9 : f5 18 = 0) (sz : Nat) : Met l yX3_measureOne [Cond.code yX3_measureOne cX3_measureOne 9 none] ({ frames := 1, cells := 0, slots := 0, locals := 24 } : Room) (va_Pc [.ref q1, .int 3] (PX g sz [(q4, .inl (g.2 0, 40, .inl f5)), (q1, .inr (5, [w2, .ref q4]))])) (QV g [(q4, .inl (g.2 0, 40, .inl f5)), (q1, .inr (5, [w2, .ref q4]))] sz (fun _ => [(q4, .inl (g.2 0, 40, .inl (upd f5 19 1))), (q1, .inr (5, [w2, .ref q4]))])) 0 0 (va_A [(q4, .inl (g.2 0, 40, .inl f5)), (q1, .inr (5, [w2, .ref q4]))] sz) := by
  refine ofN (by decide) (Nat.le_of_ble_eq_true rfl) rfl ?_
  intro p e s m args below meth c A ls hAe hsz hx hb hml hr hlocks hin hown hE hP hD hA hS hl
  have hown : s.vm.findClass RX3 = some m.cls := hown
  refine lv_iconst (v := 0) hx hb dX3_measureOne_0 (by decide) ?_
  refine lv_istore_n (lv' := [(2, .int 0), (0, .ref q1), (1, .int 3)]) hx hb dX3_measureOne_1 rfl hl (by decide) rfl (fun ls hl => ?_)
  refine lv_iconst (v := 0) hx hb dX3_measureOne_2 (by decide) ?_
  refine lv_istore_n (lv' := [(3, .int 0), (2, .int 0), (0, .ref q1), (1, .int 3)]) hx hb dX3_measureOne_3 rfl hl (by decide) rfl (fun ls hl => ?_)
  refine lv_iconst (v := 0) hx hb dX3_measureOne_4 (by decide) ?_
  refine lv_istore (lv' := [(4, .int 0), (3, .int 0), (2, .int 0), (0, .ref q1), (1, .int 3)]) hx hb dX3_measureOne_5 hl (by decide) rfl (fun ls hl => ?_)
  refine lv_iconst (v := 1) hx hb dX3_measureOne_7 (by decide) ?_
  refine lv_istore (lv' := [(5, .int 1), (4, .int 0), (3, .int 0), (2, .int 0), (0, .ref q1), (1, .int 3)]) hx hb dX3_measureOne_8 hl (by decide) rfl (fun ls hl => ?_)
  refine lv_aload_n hx hb dX3_measureOne_10 rfl (lv_at hl 4 rfl) ?_
  refine lv_iload_n hx hb dX3_measureOne_11 rfl (lv_at hl 5 rfl) ?_
  refine lv_iconst (v := 0) hx hb dX3_measureOne_12 (by decide) ?_
  refine g_i (wr := []) (rV (rest := []) hx hb hml hown hE hP hD 1 rfl rfl (c158_X3_figure l g q1 q4 w2 f5 (hf6) s.heap.size) (kV_X3_figure hE (e343 hE) rfl rfl ⟨(Nat.le_of_ble_eq_true rfl), (Nat.le_of_ble_eq_true rfl)⟩) [0, 1] rfl (by decide) rfl hl.1 rfl (lv_room (Nat.le_of_ble_eq_true rfl)) dX3_measureOne_13 ⟨(Nat.le_of_ble_eq_true rfl), (Nat.le_of_ble_eq_true rfl)⟩) hP hD hS hA [0, 1] [] rfl rfl (by decide) (by decide) (fun u1 H locs hP hD hS => ?_)
  have hP : va_P g.1 vwCl [(q4, .inl (g.2 0, 40, .inl f5)), (q1, .inr (5, [w2, .ref q4]))] H := hP
  have hD : va_D A [(q4, .inl (g.2 0, 40, .inl f5)), (q1, .inr (5, [w2, .ref q4]))] := hD
  refine lv_istore (lv' := [(6, .int 0), (5, .int 1), (4, .int 0), (3, .int 0), (2, .int 0), (0, .ref q1), (1, .int 3)]) hx hb dX3_measureOne_16 hl (by decide) rfl (fun ls hl => ?_)
  refine lv_iconst (v := 0) hx hb dX3_measureOne_18 (by decide) ?_
  refine lv_istore (lv' := [(7, .int 0), (6, .int 0), (5, .int 1), (4, .int 0), (3, .int 0), (2, .int 0), (0, .ref q1), (1, .int 3)]) hx hb dX3_measureOne_19 hl (by decide) rfl (fun ls hl => ?_)
  refine lv_iload hx hb dX3_measureOne_21 (lv_at hl 0 rfl) ?_
  refine lv_iload hx hb dX3_measureOne_23 (lv_at hl 1 rfl) ?_
  refine lv_icmp_ge (tgt := 109) hx hb dX3_measureOne_25 (by decide) (fun _ => ?_) (fun h => absurd (by decide) h)
  refine lv_aload_n hx hb dX3_measureOne_109 rfl (lv_at hl 6 rfl) ?_
  refine lv_iload_n hx hb dX3_measureOne_110 rfl (lv_at hl 7 rfl) ?_
  refine lv_iconst (v := 1) hx hb dX3_measureOne_111 (by decide) ?_
  refine lv_iload_n hx hb dX3_measureOne_112 rfl (lv_at hl 5 rfl) ?_
  refine g_v (wr := []) (rV (rest := []) hx hb hml hown hE hP hD 1 rfl rfl (c159_X3_putFigure l g q1 q4 w2 f5 (hf7) H.size) (kV_X3_putFigure hE (e91 hE) rfl rfl ⟨(Nat.le_of_ble_eq_true rfl), (Nat.le_of_ble_eq_true rfl)⟩) [0, 1] rfl (by decide) rfl hl.1 rfl (lv_room (Nat.le_of_ble_eq_true rfl)) dX3_measureOne_113 ⟨(Nat.le_of_ble_eq_true rfl), (Nat.le_of_ble_eq_true rfl)⟩) hP hD hS hA [0, 1] [] rfl rfl (by decide) (by decide) (fun u2 H locs hP hD hS => ?_)
  have hP : va_P g.1 vwCl [(q4, .inl (g.2 0, 40, .inl f5)), (q1, .inr (5, [w2, .ref q4]))] H := hP
  have hD : va_D A [(q4, .inl (g.2 0, 40, .inl f5)), (q1, .inr (5, [w2, .ref q4]))] := hD
  refine lv_aload_n hx hb dX3_measureOne_116 rfl (lv_at hl 6 rfl) ?_
  refine lv_iload_n hx hb dX3_measureOne_117 rfl (lv_at hl 7 rfl) ?_
  refine lv_iconst (v := 2) hx hb dX3_measureOne_118 (by decide) ?_
  refine lv_iload_n hx hb dX3_measureOne_119 rfl (lv_at hl 4 rfl) ?_
  refine g_v (wr := []) (rV (rest := []) hx hb hml hown hE hP hD 1 rfl rfl (c160_X3_putFigure l g q1 q4 w2 f5 (hf8) H.size) (kV_X3_putFigure hE (e91 hE) rfl rfl ⟨(Nat.le_of_ble_eq_true rfl), (Nat.le_of_ble_eq_true rfl)⟩) [0, 1] rfl (by decide) rfl hl.1 rfl (lv_room (Nat.le_of_ble_eq_true rfl)) dX3_measureOne_120 ⟨(Nat.le_of_ble_eq_true rfl), (Nat.le_of_ble_eq_true rfl)⟩) hP hD hS hA [0, 1] [] rfl rfl (by decide) (by decide) (fun u3 H locs hP hD hS => ?_)
  have hP : va_P g.1 vwCl [(q4, .inl (g.2 0, 40, .inl f5)), (q1, .inr (5, [w2, .ref q4]))] H := hP
  have hD : va_D A [(q4, .inl (g.2 0, 40, .inl f5)), (q1, .inr (5, [w2, .ref q4]))] := hD
  refine lv_aload_n hx hb dX3_measureOne_123 rfl (lv_at hl 6 rfl) ?_
  refine lv_iload_n hx hb dX3_measureOne_124 rfl (lv_at hl 7 rfl) ?_
  refine lv_iconst (v := 3) hx hb dX3_measureOne_125 (by decide) ?_
  refine lv_iload hx hb dX3_measureOne_126 (lv_at hl 3 rfl) ?_
  refine g_v (wr := []) (rV (rest := []) hx hb hml hown hE hP hD 1 rfl rfl (c161_X3_putFigure l g q1 q4 w2 f5 (hf9) H.size) (kV_X3_putFigure hE (e91 hE) rfl rfl ⟨(Nat.le_of_ble_eq_true rfl), (Nat.le_of_ble_eq_true rfl)⟩) [0, 1] rfl (by decide) rfl hl.1 rfl (lv_room (Nat.le_of_ble_eq_true rfl)) dX3_measureOne_128 ⟨(Nat.le_of_ble_eq_true rfl), (Nat.le_of_ble_eq_true rfl)⟩) hP hD hS hA [0, 1] [] rfl rfl (by decide) (by decide) (fun u4 H locs hP hD hS => ?_)
  have hP : va_P g.1 vwCl [(q4, .inl (g.2 0, 40, .inl f5)), (q1, .inr (5, [w2, .ref q4]))] H := hP
  have hD : va_D A [(q4, .inl (g.2 0, 40, .inl f5)), (q1, .inr (5, [w2, .ref q4]))] := hD
  refine lv_aload_n hx hb dX3_measureOne_131 rfl (lv_at hl 6 rfl) ?_
  refine lv_iload_n hx hb dX3_measureOne_132 rfl (lv_at hl 7 rfl) ?_
  refine lv_iconst (v := 4) hx hb dX3_measureOne_133 (by decide) ?_
  refine lv_iload hx hb dX3_measureOne_134 (lv_at hl 2 rfl) ?_
  refine g_v (wr := []) (rV (rest := []) hx hb hml hown hE hP hD 1 rfl rfl (c6_X3_putFigure l g q1 q4 w2 f5 H.size) (kV_X3_putFigure hE (e91 hE) rfl rfl ⟨(Nat.le_of_ble_eq_true rfl), (Nat.le_of_ble_eq_true rfl)⟩) [0, 1] rfl (by decide) rfl hl.1 rfl (lv_room (Nat.le_of_ble_eq_true rfl)) dX3_measureOne_136 ⟨(Nat.le_of_ble_eq_true rfl), (Nat.le_of_ble_eq_true rfl)⟩) hP hD hS hA [0, 1] [] rfl rfl (by decide) (by decide) (fun u5 H locs hP hD hS => ?_)
  have hP : va_P g.1 vwCl [(q4, .inl (g.2 0, 40, .inl (upd f5 19 1))), (q1, .inr (5, [w2, .ref q4]))] H := hP
  have hD : va_D A [(q4, .inl (g.2 0, 40, .inl (upd f5 19 1))), (q1, .inr (5, [w2, .ref q4]))] := hD
  exact x_vret hx hb hr hlocks hP hD hS hAe hsz (Nat.le_of_ble_eq_true rfl) (Nat.le_of_ble_eq_true rfl) (fun _ => 0) [0, 1] (by decide) rfl dX3_measureOne_139

set_option maxHeartbeats 4000000 in
set_option maxRecDepth 100000 in
theorem c163_X3_figure (l : Launch) (g : gG) (q1 q4 : Nat) (w2 : Value) (f5 : Nat → Int32) (hf6 : f5 16 = 0) (sz : Nat) : Met l yX3_figure [Cond.code yX3_figure cX3_figure 4 (some .int)] ({ frames := 0, cells := 0, slots := 0, locals := 0 } : Room) (va_Pc [.ref q1, .int 3, .int 1] (PX g sz [(q4, .inl (g.2 0, 40, .inl f5)), (q1, .inr (5, [w2, .ref q4]))])) (QI g [(q4, .inl (g.2 0, 40, .inl f5)), (q1, .inr (5, [w2, .ref q4]))] sz 0 (fun _ => [(q4, .inl (g.2 0, 40, .inl f5)), (q1, .inr (5, [w2, .ref q4]))])) 0 0 (va_A [(q4, .inl (g.2 0, 40, .inl f5)), (q1, .inr (5, [w2, .ref q4]))] sz) := by
  refine ofN (by decide) (Nat.le_of_ble_eq_true rfl) rfl ?_
  intro p e s m args below meth c A ls hAe hsz hx hb hml hr hlocks hin hown hE hP hD hA hS hl
  have hown : s.vm.findClass RX3 = some m.cls := hown
  refine lv_iload_n hx hb dX3_figure_0 rfl (lv_at hl 1 rfl) ?_
  refine lv_iconst (v := 5) hx hb dX3_figure_1 (by decide) ?_
  refine x_imul (v := 15) hx hb dX3_figure_2 (by decide) ?_
  refine lv_iload_n hx hb dX3_figure_3 rfl (lv_at hl 2 rfl) ?_
  refine x_iadd (v := 16) hx hb dX3_figure_4 (by decide) ?_
  refine lv_istore_n (lv' := [(3, .int 16), (0, .ref q1), (1, .int 3), (2, .int 1)]) hx hb dX3_figure_5 rfl hl (by decide) rfl (fun ls hl => ?_)
  refine lv_iload_n hx hb dX3_figure_6 rfl (lv_at hl 0 rfl) ?_
  refine lv_if_lt (tgt := 28) hx hb dX3_figure_7 (by decide) (fun h => absurd h (by decide)) (fun _ => ?_)
  refine lv_iload_n hx hb dX3_figure_10 rfl (lv_at hl 0 rfl) ?_
  refine lv_aload_n hx hb dX3_figure_11 rfl (lv_at hl 1 rfl) ?_
  refine gf_RX3_15 hx hb hown hE hP 1 rfl rfl dX3_figure_12 ?_
  refine x_aleni (v := 40) hx hb hE hP 0 rfl rfl dX3_figure_15 ?_
  refine lv_icmp_ge (tgt := 28) hx hb dX3_figure_16 (by decide) (fun h => absurd h (by decide)) (fun _ => ?_)
  refine lv_aload_n hx hb dX3_figure_19 rfl (lv_at hl 1 rfl) ?_
  refine gf_RX3_15 hx hb hown hE hP 1 rfl rfl dX3_figure_20 ?_
  refine lv_iload_n hx hb dX3_figure_23 rfl (lv_at hl 0 rfl) ?_
  refine x_iald (v := 0) hx hb hE hP 0 rfl 16 (x_in (by decide)) (by decide) hf6 dX3_figure_24 ?_
  refine lv_goto (tgt := 29) hx hb dX3_figure_25 (by decide) ?_
  exact x_zret hx hb hr rfl rfl hlocks hP hD hS hAe hsz (Nat.le_of_ble_eq_true rfl) (Nat.le_of_ble_eq_true rfl) (fun _ => 0) [0, 1] (by decide) rfl dX3_figure_29

set_option maxHeartbeats 4000000 in
set_option maxRecDepth 100000 in
theorem c164_X3_figure (l : Launch) (g : gG) (q1 q4 : Nat) (w2 : Value) (f5 : Nat → Int32) (hf6 : f5 20 = 0) (sz : Nat) : Met l yX3_figure [Cond.code yX3_figure cX3_figure 4 (some .int)] ({ frames := 0, cells := 0, slots := 0, locals := 0 } : Room) (va_Pc [.ref q1, .int 4, .int 0] (PX g sz [(q4, .inl (g.2 0, 40, .inl f5)), (q1, .inr (5, [w2, .ref q4]))])) (QI g [(q4, .inl (g.2 0, 40, .inl f5)), (q1, .inr (5, [w2, .ref q4]))] sz 0 (fun _ => [(q4, .inl (g.2 0, 40, .inl f5)), (q1, .inr (5, [w2, .ref q4]))])) 0 0 (va_A [(q4, .inl (g.2 0, 40, .inl f5)), (q1, .inr (5, [w2, .ref q4]))] sz) := by
  refine ofN (by decide) (Nat.le_of_ble_eq_true rfl) rfl ?_
  intro p e s m args below meth c A ls hAe hsz hx hb hml hr hlocks hin hown hE hP hD hA hS hl
  have hown : s.vm.findClass RX3 = some m.cls := hown
  refine lv_iload_n hx hb dX3_figure_0 rfl (lv_at hl 1 rfl) ?_
  refine lv_iconst (v := 5) hx hb dX3_figure_1 (by decide) ?_
  refine x_imul (v := 20) hx hb dX3_figure_2 (by decide) ?_
  refine lv_iload_n hx hb dX3_figure_3 rfl (lv_at hl 2 rfl) ?_
  refine x_iadd (v := 20) hx hb dX3_figure_4 (by decide) ?_
  refine lv_istore_n (lv' := [(3, .int 20), (0, .ref q1), (1, .int 4), (2, .int 0)]) hx hb dX3_figure_5 rfl hl (by decide) rfl (fun ls hl => ?_)
  refine lv_iload_n hx hb dX3_figure_6 rfl (lv_at hl 0 rfl) ?_
  refine lv_if_lt (tgt := 28) hx hb dX3_figure_7 (by decide) (fun h => absurd h (by decide)) (fun _ => ?_)
  refine lv_iload_n hx hb dX3_figure_10 rfl (lv_at hl 0 rfl) ?_
  refine lv_aload_n hx hb dX3_figure_11 rfl (lv_at hl 1 rfl) ?_
  refine gf_RX3_15 hx hb hown hE hP 1 rfl rfl dX3_figure_12 ?_
  refine x_aleni (v := 40) hx hb hE hP 0 rfl rfl dX3_figure_15 ?_
  refine lv_icmp_ge (tgt := 28) hx hb dX3_figure_16 (by decide) (fun h => absurd h (by decide)) (fun _ => ?_)
  refine lv_aload_n hx hb dX3_figure_19 rfl (lv_at hl 1 rfl) ?_
  refine gf_RX3_15 hx hb hown hE hP 1 rfl rfl dX3_figure_20 ?_
  refine lv_iload_n hx hb dX3_figure_23 rfl (lv_at hl 0 rfl) ?_
  refine x_iald (v := 0) hx hb hE hP 0 rfl 20 (x_in (by decide)) (by decide) hf6 dX3_figure_24 ?_
  refine lv_goto (tgt := 29) hx hb dX3_figure_25 (by decide) ?_
  exact x_zret hx hb hr rfl rfl hlocks hP hD hS hAe hsz (Nat.le_of_ble_eq_true rfl) (Nat.le_of_ble_eq_true rfl) (fun _ => 0) [0, 1] (by decide) rfl dX3_figure_29

set_option maxHeartbeats 4000000 in
set_option maxRecDepth 100000 in
theorem c165_X3_putFigure (l : Launch) (g : gG) (q1 q4 : Nat) (w2 : Value) (f5 : Nat → Int32) (hf6 : f5 21 = 0) (sz : Nat) : Met l yX3_putFigure [Cond.code yX3_putFigure cX3_putFigure 5 none] ({ frames := 0, cells := 0, slots := 0, locals := 0 } : Room) (va_Pc [.ref q1, .int 4, .int 1, .int 0] (PX g sz [(q4, .inl (g.2 0, 40, .inl f5)), (q1, .inr (5, [w2, .ref q4]))])) (QV g [(q4, .inl (g.2 0, 40, .inl f5)), (q1, .inr (5, [w2, .ref q4]))] sz (fun _ => [(q4, .inl (g.2 0, 40, .inl f5)), (q1, .inr (5, [w2, .ref q4]))])) 0 0 (va_A [(q4, .inl (g.2 0, 40, .inl f5)), (q1, .inr (5, [w2, .ref q4]))] sz) := by
  refine ofN (by decide) (Nat.le_of_ble_eq_true rfl) rfl ?_
  intro p e s m args below meth c A ls hAe hsz hx hb hml hr hlocks hin hown hE hP hD hA hS hl
  have hown : s.vm.findClass RX3 = some m.cls := hown
  refine lv_iload_n hx hb dX3_putFigure_0 rfl (lv_at hl 1 rfl) ?_
  refine lv_iconst (v := 5) hx hb dX3_putFigure_1 (by decide) ?_
  refine x_imul (v := 20) hx hb dX3_putFigure_2 (by decide) ?_
  refine lv_iload_n hx hb dX3_putFigure_3 rfl (lv_at hl 2 rfl) ?_
  refine x_iadd (v := 21) hx hb dX3_putFigure_4 (by decide) ?_
  refine lv_istore (lv' := [(4, .int 21), (0, .ref q1), (1, .int 4), (2, .int 1), (3, .int 0)]) hx hb dX3_putFigure_5 hl (by decide) rfl (fun ls hl => ?_)
  refine lv_iload hx hb dX3_putFigure_7 (lv_at hl 0 rfl) ?_
  refine lv_if_lt (tgt := 30) hx hb dX3_putFigure_9 (by decide) (fun h => absurd h (by decide)) (fun _ => ?_)
  refine lv_iload hx hb dX3_putFigure_12 (lv_at hl 0 rfl) ?_
  refine lv_aload_n hx hb dX3_putFigure_14 rfl (lv_at hl 1 rfl) ?_
  refine gf_RX3_15 hx hb hown hE hP 1 rfl rfl dX3_putFigure_15 ?_
  refine x_aleni (v := 40) hx hb hE hP 0 rfl rfl dX3_putFigure_18 ?_
  refine lv_icmp_ge (tgt := 30) hx hb dX3_putFigure_19 (by decide) (fun h => absurd h (by decide)) (fun _ => ?_)
  refine lv_aload_n hx hb dX3_putFigure_22 rfl (lv_at hl 1 rfl) ?_
  refine gf_RX3_15 hx hb hown hE hP 1 rfl rfl dX3_putFigure_23 ?_
  refine lv_iload hx hb dX3_putFigure_26 (lv_at hl 0 rfl) ?_
  refine lv_iload_n hx hb dX3_putFigure_28 rfl (lv_at hl 4 rfl) ?_
  refine x_iast_same hx hb hE hP hD hS 0 rfl 21 (x_in (by decide)) (by decide) hf6 dX3_putFigure_29 (fun H locs hP hD hS => ?_)
  exact x_vret hx hb hr hlocks hP hD hS hAe hsz (Nat.le_of_ble_eq_true rfl) (Nat.le_of_ble_eq_true rfl) (fun _ => 0) [0, 1] (by decide) rfl dX3_putFigure_30

set_option maxHeartbeats 4000000 in
set_option maxRecDepth 100000 in
theorem c166_X3_putFigure (l : Launch) (g : gG) (q1 q4 : Nat) (w2 : Value) (f5 : Nat → Int32) (hf6 : f5 22 = 0) (sz : Nat) : Met l yX3_putFigure [Cond.code yX3_putFigure cX3_putFigure 5 none] ({ frames := 0, cells := 0, slots := 0, locals := 0 } : Room) (va_Pc [.ref q1, .int 4, .int 2, .int 0] (PX g sz [(q4, .inl (g.2 0, 40, .inl f5)), (q1, .inr (5, [w2, .ref q4]))])) (QV g [(q4, .inl (g.2 0, 40, .inl f5)), (q1, .inr (5, [w2, .ref q4]))] sz (fun _ => [(q4, .inl (g.2 0, 40, .inl f5)), (q1, .inr (5, [w2, .ref q4]))])) 0 0 (va_A [(q4, .inl (g.2 0, 40, .inl f5)), (q1, .inr (5, [w2, .ref q4]))] sz) := by
  refine ofN (by decide) (Nat.le_of_ble_eq_true rfl) rfl ?_
  intro p e s m args below meth c A ls hAe hsz hx hb hml hr hlocks hin hown hE hP hD hA hS hl
  have hown : s.vm.findClass RX3 = some m.cls := hown
  refine lv_iload_n hx hb dX3_putFigure_0 rfl (lv_at hl 1 rfl) ?_
  refine lv_iconst (v := 5) hx hb dX3_putFigure_1 (by decide) ?_
  refine x_imul (v := 20) hx hb dX3_putFigure_2 (by decide) ?_
  refine lv_iload_n hx hb dX3_putFigure_3 rfl (lv_at hl 2 rfl) ?_
  refine x_iadd (v := 22) hx hb dX3_putFigure_4 (by decide) ?_
  refine lv_istore (lv' := [(4, .int 22), (0, .ref q1), (1, .int 4), (2, .int 2), (3, .int 0)]) hx hb dX3_putFigure_5 hl (by decide) rfl (fun ls hl => ?_)
  refine lv_iload hx hb dX3_putFigure_7 (lv_at hl 0 rfl) ?_
  refine lv_if_lt (tgt := 30) hx hb dX3_putFigure_9 (by decide) (fun h => absurd h (by decide)) (fun _ => ?_)
  refine lv_iload hx hb dX3_putFigure_12 (lv_at hl 0 rfl) ?_
  refine lv_aload_n hx hb dX3_putFigure_14 rfl (lv_at hl 1 rfl) ?_
  refine gf_RX3_15 hx hb hown hE hP 1 rfl rfl dX3_putFigure_15 ?_
  refine x_aleni (v := 40) hx hb hE hP 0 rfl rfl dX3_putFigure_18 ?_
  refine lv_icmp_ge (tgt := 30) hx hb dX3_putFigure_19 (by decide) (fun h => absurd h (by decide)) (fun _ => ?_)
  refine lv_aload_n hx hb dX3_putFigure_22 rfl (lv_at hl 1 rfl) ?_
  refine gf_RX3_15 hx hb hown hE hP 1 rfl rfl dX3_putFigure_23 ?_
  refine lv_iload hx hb dX3_putFigure_26 (lv_at hl 0 rfl) ?_
  refine lv_iload_n hx hb dX3_putFigure_28 rfl (lv_at hl 4 rfl) ?_
  refine x_iast_same hx hb hE hP hD hS 0 rfl 22 (x_in (by decide)) (by decide) hf6 dX3_putFigure_29 (fun H locs hP hD hS => ?_)
  exact x_vret hx hb hr hlocks hP hD hS hAe hsz (Nat.le_of_ble_eq_true rfl) (Nat.le_of_ble_eq_true rfl) (fun _ => 0) [0, 1] (by decide) rfl dX3_putFigure_30

set_option maxHeartbeats 4000000 in
set_option maxRecDepth 100000 in
theorem c167_X3_putFigure (l : Launch) (g : gG) (q1 q4 : Nat) (w2 : Value) (f5 : Nat → Int32) (hf6 : f5 23 = 0) (sz : Nat) : Met l yX3_putFigure [Cond.code yX3_putFigure cX3_putFigure 5 none] ({ frames := 0, cells := 0, slots := 0, locals := 0 } : Room) (va_Pc [.ref q1, .int 4, .int 3, .int 0] (PX g sz [(q4, .inl (g.2 0, 40, .inl f5)), (q1, .inr (5, [w2, .ref q4]))])) (QV g [(q4, .inl (g.2 0, 40, .inl f5)), (q1, .inr (5, [w2, .ref q4]))] sz (fun _ => [(q4, .inl (g.2 0, 40, .inl f5)), (q1, .inr (5, [w2, .ref q4]))])) 0 0 (va_A [(q4, .inl (g.2 0, 40, .inl f5)), (q1, .inr (5, [w2, .ref q4]))] sz) := by
  refine ofN (by decide) (Nat.le_of_ble_eq_true rfl) rfl ?_
  intro p e s m args below meth c A ls hAe hsz hx hb hml hr hlocks hin hown hE hP hD hA hS hl
  have hown : s.vm.findClass RX3 = some m.cls := hown
  refine lv_iload_n hx hb dX3_putFigure_0 rfl (lv_at hl 1 rfl) ?_
  refine lv_iconst (v := 5) hx hb dX3_putFigure_1 (by decide) ?_
  refine x_imul (v := 20) hx hb dX3_putFigure_2 (by decide) ?_
  refine lv_iload_n hx hb dX3_putFigure_3 rfl (lv_at hl 2 rfl) ?_
  refine x_iadd (v := 23) hx hb dX3_putFigure_4 (by decide) ?_
  refine lv_istore (lv' := [(4, .int 23), (0, .ref q1), (1, .int 4), (2, .int 3), (3, .int 0)]) hx hb dX3_putFigure_5 hl (by decide) rfl (fun ls hl => ?_)
  refine lv_iload hx hb dX3_putFigure_7 (lv_at hl 0 rfl) ?_
  refine lv_if_lt (tgt := 30) hx hb dX3_putFigure_9 (by decide) (fun h => absurd h (by decide)) (fun _ => ?_)
  refine lv_iload hx hb dX3_putFigure_12 (lv_at hl 0 rfl) ?_
  refine lv_aload_n hx hb dX3_putFigure_14 rfl (lv_at hl 1 rfl) ?_
  refine gf_RX3_15 hx hb hown hE hP 1 rfl rfl dX3_putFigure_15 ?_
  refine x_aleni (v := 40) hx hb hE hP 0 rfl rfl dX3_putFigure_18 ?_
  refine lv_icmp_ge (tgt := 30) hx hb dX3_putFigure_19 (by decide) (fun h => absurd h (by decide)) (fun _ => ?_)
  refine lv_aload_n hx hb dX3_putFigure_22 rfl (lv_at hl 1 rfl) ?_
  refine gf_RX3_15 hx hb hown hE hP 1 rfl rfl dX3_putFigure_23 ?_
  refine lv_iload hx hb dX3_putFigure_26 (lv_at hl 0 rfl) ?_
  refine lv_iload_n hx hb dX3_putFigure_28 rfl (lv_at hl 4 rfl) ?_
  refine x_iast_same hx hb hE hP hD hS 0 rfl 23 (x_in (by decide)) (by decide) hf6 dX3_putFigure_29 (fun H locs hP hD hS => ?_)
  exact x_vret hx hb hr hlocks hP hD hS hAe hsz (Nat.le_of_ble_eq_true rfl) (Nat.le_of_ble_eq_true rfl) (fun _ => 0) [0, 1] (by decide) rfl dX3_putFigure_30

set_option maxHeartbeats 4000000 in
set_option maxRecDepth 100000 in
theorem c168_X3_measureOne (l : Launch) (g : gG) (q1 q4 : Nat) (w2 : Value) (f5 : Nat → Int32) (hf6 : f5 20 = 0) (hf7 : f5 21 = 0) (hf8 : f5 22 = 0) (hf9 : f5 23 = 0) (sz : Nat) : Met l yX3_measureOne [Cond.code yX3_measureOne cX3_measureOne 9 none] ({ frames := 1, cells := 0, slots := 0, locals := 24 } : Room) (va_Pc [.ref q1, .int 4] (PX g sz [(q4, .inl (g.2 0, 40, .inl f5)), (q1, .inr (5, [w2, .ref q4]))])) (QV g [(q4, .inl (g.2 0, 40, .inl f5)), (q1, .inr (5, [w2, .ref q4]))] sz (fun _ => [(q4, .inl (g.2 0, 40, .inl (upd f5 24 1))), (q1, .inr (5, [w2, .ref q4]))])) 0 0 (va_A [(q4, .inl (g.2 0, 40, .inl f5)), (q1, .inr (5, [w2, .ref q4]))] sz) := by
  refine ofN (by decide) (Nat.le_of_ble_eq_true rfl) rfl ?_
  intro p e s m args below meth c A ls hAe hsz hx hb hml hr hlocks hin hown hE hP hD hA hS hl
  have hown : s.vm.findClass RX3 = some m.cls := hown
  refine lv_iconst (v := 0) hx hb dX3_measureOne_0 (by decide) ?_
  refine lv_istore_n (lv' := [(2, .int 0), (0, .ref q1), (1, .int 4)]) hx hb dX3_measureOne_1 rfl hl (by decide) rfl (fun ls hl => ?_)
  refine lv_iconst (v := 0) hx hb dX3_measureOne_2 (by decide) ?_
  refine lv_istore_n (lv' := [(3, .int 0), (2, .int 0), (0, .ref q1), (1, .int 4)]) hx hb dX3_measureOne_3 rfl hl (by decide) rfl (fun ls hl => ?_)
  refine lv_iconst (v := 0) hx hb dX3_measureOne_4 (by decide) ?_
  refine lv_istore (lv' := [(4, .int 0), (3, .int 0), (2, .int 0), (0, .ref q1), (1, .int 4)]) hx hb dX3_measureOne_5 hl (by decide) rfl (fun ls hl => ?_)
  refine lv_iconst (v := 1) hx hb dX3_measureOne_7 (by decide) ?_
  refine lv_istore (lv' := [(5, .int 1), (4, .int 0), (3, .int 0), (2, .int 0), (0, .ref q1), (1, .int 4)]) hx hb dX3_measureOne_8 hl (by decide) rfl (fun ls hl => ?_)
  refine lv_aload_n hx hb dX3_measureOne_10 rfl (lv_at hl 4 rfl) ?_
  refine lv_iload_n hx hb dX3_measureOne_11 rfl (lv_at hl 5 rfl) ?_
  refine lv_iconst (v := 0) hx hb dX3_measureOne_12 (by decide) ?_
  refine g_i (wr := []) (rV (rest := []) hx hb hml hown hE hP hD 1 rfl rfl (c164_X3_figure l g q1 q4 w2 f5 (hf6) s.heap.size) (kV_X3_figure hE (e343 hE) rfl rfl ⟨(Nat.le_of_ble_eq_true rfl), (Nat.le_of_ble_eq_true rfl)⟩) [0, 1] rfl (by decide) rfl hl.1 rfl (lv_room (Nat.le_of_ble_eq_true rfl)) dX3_measureOne_13 ⟨(Nat.le_of_ble_eq_true rfl), (Nat.le_of_ble_eq_true rfl)⟩) hP hD hS hA [0, 1] [] rfl rfl (by decide) (by decide) (fun u1 H locs hP hD hS => ?_)
  have hP : va_P g.1 vwCl [(q4, .inl (g.2 0, 40, .inl f5)), (q1, .inr (5, [w2, .ref q4]))] H := hP
  have hD : va_D A [(q4, .inl (g.2 0, 40, .inl f5)), (q1, .inr (5, [w2, .ref q4]))] := hD
  refine lv_istore (lv' := [(6, .int 0), (5, .int 1), (4, .int 0), (3, .int 0), (2, .int 0), (0, .ref q1), (1, .int 4)]) hx hb dX3_measureOne_16 hl (by decide) rfl (fun ls hl => ?_)
  refine lv_iconst (v := 0) hx hb dX3_measureOne_18 (by decide) ?_
  refine lv_istore (lv' := [(7, .int 0), (6, .int 0), (5, .int 1), (4, .int 0), (3, .int 0), (2, .int 0), (0, .ref q1), (1, .int 4)]) hx hb dX3_measureOne_19 hl (by decide) rfl (fun ls hl => ?_)
  refine lv_iload hx hb dX3_measureOne_21 (lv_at hl 0 rfl) ?_
  refine lv_iload hx hb dX3_measureOne_23 (lv_at hl 1 rfl) ?_
  refine lv_icmp_ge (tgt := 109) hx hb dX3_measureOne_25 (by decide) (fun _ => ?_) (fun h => absurd (by decide) h)
  refine lv_aload_n hx hb dX3_measureOne_109 rfl (lv_at hl 6 rfl) ?_
  refine lv_iload_n hx hb dX3_measureOne_110 rfl (lv_at hl 7 rfl) ?_
  refine lv_iconst (v := 1) hx hb dX3_measureOne_111 (by decide) ?_
  refine lv_iload_n hx hb dX3_measureOne_112 rfl (lv_at hl 5 rfl) ?_
  refine g_v (wr := []) (rV (rest := []) hx hb hml hown hE hP hD 1 rfl rfl (c165_X3_putFigure l g q1 q4 w2 f5 (hf7) H.size) (kV_X3_putFigure hE (e91 hE) rfl rfl ⟨(Nat.le_of_ble_eq_true rfl), (Nat.le_of_ble_eq_true rfl)⟩) [0, 1] rfl (by decide) rfl hl.1 rfl (lv_room (Nat.le_of_ble_eq_true rfl)) dX3_measureOne_113 ⟨(Nat.le_of_ble_eq_true rfl), (Nat.le_of_ble_eq_true rfl)⟩) hP hD hS hA [0, 1] [] rfl rfl (by decide) (by decide) (fun u2 H locs hP hD hS => ?_)
  have hP : va_P g.1 vwCl [(q4, .inl (g.2 0, 40, .inl f5)), (q1, .inr (5, [w2, .ref q4]))] H := hP
  have hD : va_D A [(q4, .inl (g.2 0, 40, .inl f5)), (q1, .inr (5, [w2, .ref q4]))] := hD
  refine lv_aload_n hx hb dX3_measureOne_116 rfl (lv_at hl 6 rfl) ?_
  refine lv_iload_n hx hb dX3_measureOne_117 rfl (lv_at hl 7 rfl) ?_
  refine lv_iconst (v := 2) hx hb dX3_measureOne_118 (by decide) ?_
  refine lv_iload_n hx hb dX3_measureOne_119 rfl (lv_at hl 4 rfl) ?_
  refine g_v (wr := []) (rV (rest := []) hx hb hml hown hE hP hD 1 rfl rfl (c166_X3_putFigure l g q1 q4 w2 f5 (hf8) H.size) (kV_X3_putFigure hE (e91 hE) rfl rfl ⟨(Nat.le_of_ble_eq_true rfl), (Nat.le_of_ble_eq_true rfl)⟩) [0, 1] rfl (by decide) rfl hl.1 rfl (lv_room (Nat.le_of_ble_eq_true rfl)) dX3_measureOne_120 ⟨(Nat.le_of_ble_eq_true rfl), (Nat.le_of_ble_eq_true rfl)⟩) hP hD hS hA [0, 1] [] rfl rfl (by decide) (by decide) (fun u3 H locs hP hD hS => ?_)
  have hP : va_P g.1 vwCl [(q4, .inl (g.2 0, 40, .inl f5)), (q1, .inr (5, [w2, .ref q4]))] H := hP
  have hD : va_D A [(q4, .inl (g.2 0, 40, .inl f5)), (q1, .inr (5, [w2, .ref q4]))] := hD
  refine lv_aload_n hx hb dX3_measureOne_123 rfl (lv_at hl 6 rfl) ?_
  refine lv_iload_n hx hb dX3_measureOne_124 rfl (lv_at hl 7 rfl) ?_
  refine lv_iconst (v := 3) hx hb dX3_measureOne_125 (by decide) ?_
  refine lv_iload hx hb dX3_measureOne_126 (lv_at hl 3 rfl) ?_
  refine g_v (wr := []) (rV (rest := []) hx hb hml hown hE hP hD 1 rfl rfl (c167_X3_putFigure l g q1 q4 w2 f5 (hf9) H.size) (kV_X3_putFigure hE (e91 hE) rfl rfl ⟨(Nat.le_of_ble_eq_true rfl), (Nat.le_of_ble_eq_true rfl)⟩) [0, 1] rfl (by decide) rfl hl.1 rfl (lv_room (Nat.le_of_ble_eq_true rfl)) dX3_measureOne_128 ⟨(Nat.le_of_ble_eq_true rfl), (Nat.le_of_ble_eq_true rfl)⟩) hP hD hS hA [0, 1] [] rfl rfl (by decide) (by decide) (fun u4 H locs hP hD hS => ?_)
  have hP : va_P g.1 vwCl [(q4, .inl (g.2 0, 40, .inl f5)), (q1, .inr (5, [w2, .ref q4]))] H := hP
  have hD : va_D A [(q4, .inl (g.2 0, 40, .inl f5)), (q1, .inr (5, [w2, .ref q4]))] := hD
  refine lv_aload_n hx hb dX3_measureOne_131 rfl (lv_at hl 6 rfl) ?_
  refine lv_iload_n hx hb dX3_measureOne_132 rfl (lv_at hl 7 rfl) ?_
  refine lv_iconst (v := 4) hx hb dX3_measureOne_133 (by decide) ?_
  refine lv_iload hx hb dX3_measureOne_134 (lv_at hl 2 rfl) ?_
  refine g_v (wr := []) (rV (rest := []) hx hb hml hown hE hP hD 1 rfl rfl (c7_X3_putFigure l g q1 q4 w2 f5 H.size) (kV_X3_putFigure hE (e91 hE) rfl rfl ⟨(Nat.le_of_ble_eq_true rfl), (Nat.le_of_ble_eq_true rfl)⟩) [0, 1] rfl (by decide) rfl hl.1 rfl (lv_room (Nat.le_of_ble_eq_true rfl)) dX3_measureOne_136 ⟨(Nat.le_of_ble_eq_true rfl), (Nat.le_of_ble_eq_true rfl)⟩) hP hD hS hA [0, 1] [] rfl rfl (by decide) (by decide) (fun u5 H locs hP hD hS => ?_)
  have hP : va_P g.1 vwCl [(q4, .inl (g.2 0, 40, .inl (upd f5 24 1))), (q1, .inr (5, [w2, .ref q4]))] H := hP
  have hD : va_D A [(q4, .inl (g.2 0, 40, .inl (upd f5 24 1))), (q1, .inr (5, [w2, .ref q4]))] := hD
  exact x_vret hx hb hr hlocks hP hD hS hAe hsz (Nat.le_of_ble_eq_true rfl) (Nat.le_of_ble_eq_true rfl) (fun _ => 0) [0, 1] (by decide) rfl dX3_measureOne_139

set_option maxHeartbeats 4000000 in
set_option maxRecDepth 100000 in
theorem c169_X3_figure (l : Launch) (g : gG) (q1 q4 : Nat) (w2 : Value) (f5 : Nat → Int32) (hf6 : f5 21 = 0) (sz : Nat) : Met l yX3_figure [Cond.code yX3_figure cX3_figure 4 (some .int)] ({ frames := 0, cells := 0, slots := 0, locals := 0 } : Room) (va_Pc [.ref q1, .int 4, .int 1] (PX g sz [(q4, .inl (g.2 0, 40, .inl f5)), (q1, .inr (5, [w2, .ref q4]))])) (QI g [(q4, .inl (g.2 0, 40, .inl f5)), (q1, .inr (5, [w2, .ref q4]))] sz 0 (fun _ => [(q4, .inl (g.2 0, 40, .inl f5)), (q1, .inr (5, [w2, .ref q4]))])) 0 0 (va_A [(q4, .inl (g.2 0, 40, .inl f5)), (q1, .inr (5, [w2, .ref q4]))] sz) := by
  refine ofN (by decide) (Nat.le_of_ble_eq_true rfl) rfl ?_
  intro p e s m args below meth c A ls hAe hsz hx hb hml hr hlocks hin hown hE hP hD hA hS hl
  have hown : s.vm.findClass RX3 = some m.cls := hown
  refine lv_iload_n hx hb dX3_figure_0 rfl (lv_at hl 1 rfl) ?_
  refine lv_iconst (v := 5) hx hb dX3_figure_1 (by decide) ?_
  refine x_imul (v := 20) hx hb dX3_figure_2 (by decide) ?_
  refine lv_iload_n hx hb dX3_figure_3 rfl (lv_at hl 2 rfl) ?_
  refine x_iadd (v := 21) hx hb dX3_figure_4 (by decide) ?_
  refine lv_istore_n (lv' := [(3, .int 21), (0, .ref q1), (1, .int 4), (2, .int 1)]) hx hb dX3_figure_5 rfl hl (by decide) rfl (fun ls hl => ?_)
  refine lv_iload_n hx hb dX3_figure_6 rfl (lv_at hl 0 rfl) ?_
  refine lv_if_lt (tgt := 28) hx hb dX3_figure_7 (by decide) (fun h => absurd h (by decide)) (fun _ => ?_)
  refine lv_iload_n hx hb dX3_figure_10 rfl (lv_at hl 0 rfl) ?_
  refine lv_aload_n hx hb dX3_figure_11 rfl (lv_at hl 1 rfl) ?_
  refine gf_RX3_15 hx hb hown hE hP 1 rfl rfl dX3_figure_12 ?_
  refine x_aleni (v := 40) hx hb hE hP 0 rfl rfl dX3_figure_15 ?_
  refine lv_icmp_ge (tgt := 28) hx hb dX3_figure_16 (by decide) (fun h => absurd h (by decide)) (fun _ => ?_)
  refine lv_aload_n hx hb dX3_figure_19 rfl (lv_at hl 1 rfl) ?_
  refine gf_RX3_15 hx hb hown hE hP 1 rfl rfl dX3_figure_20 ?_
  refine lv_iload_n hx hb dX3_figure_23 rfl (lv_at hl 0 rfl) ?_
  refine x_iald (v := 0) hx hb hE hP 0 rfl 21 (x_in (by decide)) (by decide) hf6 dX3_figure_24 ?_
  refine lv_goto (tgt := 29) hx hb dX3_figure_25 (by decide) ?_
  exact x_zret hx hb hr rfl rfl hlocks hP hD hS hAe hsz (Nat.le_of_ble_eq_true rfl) (Nat.le_of_ble_eq_true rfl) (fun _ => 0) [0, 1] (by decide) rfl dX3_figure_29

set_option maxHeartbeats 4000000 in
set_option maxRecDepth 100000 in
theorem c170_X3_figure (l : Launch) (g : gG) (q1 q4 : Nat) (w2 : Value) (f5 : Nat → Int32) (hf6 : f5 25 = 0) (sz : Nat) : Met l yX3_figure [Cond.code yX3_figure cX3_figure 4 (some .int)] ({ frames := 0, cells := 0, slots := 0, locals := 0 } : Room) (va_Pc [.ref q1, .int 5, .int 0] (PX g sz [(q4, .inl (g.2 0, 40, .inl f5)), (q1, .inr (5, [w2, .ref q4]))])) (QI g [(q4, .inl (g.2 0, 40, .inl f5)), (q1, .inr (5, [w2, .ref q4]))] sz 0 (fun _ => [(q4, .inl (g.2 0, 40, .inl f5)), (q1, .inr (5, [w2, .ref q4]))])) 0 0 (va_A [(q4, .inl (g.2 0, 40, .inl f5)), (q1, .inr (5, [w2, .ref q4]))] sz) := by
  refine ofN (by decide) (Nat.le_of_ble_eq_true rfl) rfl ?_
  intro p e s m args below meth c A ls hAe hsz hx hb hml hr hlocks hin hown hE hP hD hA hS hl
  have hown : s.vm.findClass RX3 = some m.cls := hown
  refine lv_iload_n hx hb dX3_figure_0 rfl (lv_at hl 1 rfl) ?_
  refine lv_iconst (v := 5) hx hb dX3_figure_1 (by decide) ?_
  refine x_imul (v := 25) hx hb dX3_figure_2 (by decide) ?_
  refine lv_iload_n hx hb dX3_figure_3 rfl (lv_at hl 2 rfl) ?_
  refine x_iadd (v := 25) hx hb dX3_figure_4 (by decide) ?_
  refine lv_istore_n (lv' := [(3, .int 25), (0, .ref q1), (1, .int 5), (2, .int 0)]) hx hb dX3_figure_5 rfl hl (by decide) rfl (fun ls hl => ?_)
  refine lv_iload_n hx hb dX3_figure_6 rfl (lv_at hl 0 rfl) ?_
  refine lv_if_lt (tgt := 28) hx hb dX3_figure_7 (by decide) (fun h => absurd h (by decide)) (fun _ => ?_)
  refine lv_iload_n hx hb dX3_figure_10 rfl (lv_at hl 0 rfl) ?_
  refine lv_aload_n hx hb dX3_figure_11 rfl (lv_at hl 1 rfl) ?_
  refine gf_RX3_15 hx hb hown hE hP 1 rfl rfl dX3_figure_12 ?_
  refine x_aleni (v := 40) hx hb hE hP 0 rfl rfl dX3_figure_15 ?_
  refine lv_icmp_ge (tgt := 28) hx hb dX3_figure_16 (by decide) (fun h => absurd h (by decide)) (fun _ => ?_)
  refine lv_aload_n hx hb dX3_figure_19 rfl (lv_at hl 1 rfl) ?_
  refine gf_RX3_15 hx hb hown hE hP 1 rfl rfl dX3_figure_20 ?_
  refine lv_iload_n hx hb dX3_figure_23 rfl (lv_at hl 0 rfl) ?_
  refine x_iald (v := 0) hx hb hE hP 0 rfl 25 (x_in (by decide)) (by decide) hf6 dX3_figure_24 ?_
  refine lv_goto (tgt := 29) hx hb dX3_figure_25 (by decide) ?_
  exact x_zret hx hb hr rfl rfl hlocks hP hD hS hAe hsz (Nat.le_of_ble_eq_true rfl) (Nat.le_of_ble_eq_true rfl) (fun _ => 0) [0, 1] (by decide) rfl dX3_figure_29

set_option maxHeartbeats 4000000 in
set_option maxRecDepth 100000 in
theorem c171_X3_putFigure (l : Launch) (g : gG) (q1 q4 : Nat) (w2 : Value) (f5 : Nat → Int32) (hf6 : f5 26 = 0) (sz : Nat) : Met l yX3_putFigure [Cond.code yX3_putFigure cX3_putFigure 5 none] ({ frames := 0, cells := 0, slots := 0, locals := 0 } : Room) (va_Pc [.ref q1, .int 5, .int 1, .int 0] (PX g sz [(q4, .inl (g.2 0, 40, .inl f5)), (q1, .inr (5, [w2, .ref q4]))])) (QV g [(q4, .inl (g.2 0, 40, .inl f5)), (q1, .inr (5, [w2, .ref q4]))] sz (fun _ => [(q4, .inl (g.2 0, 40, .inl f5)), (q1, .inr (5, [w2, .ref q4]))])) 0 0 (va_A [(q4, .inl (g.2 0, 40, .inl f5)), (q1, .inr (5, [w2, .ref q4]))] sz) := by
  refine ofN (by decide) (Nat.le_of_ble_eq_true rfl) rfl ?_
  intro p e s m args below meth c A ls hAe hsz hx hb hml hr hlocks hin hown hE hP hD hA hS hl
  have hown : s.vm.findClass RX3 = some m.cls := hown
  refine lv_iload_n hx hb dX3_putFigure_0 rfl (lv_at hl 1 rfl) ?_
  refine lv_iconst (v := 5) hx hb dX3_putFigure_1 (by decide) ?_
  refine x_imul (v := 25) hx hb dX3_putFigure_2 (by decide) ?_
  refine lv_iload_n hx hb dX3_putFigure_3 rfl (lv_at hl 2 rfl) ?_
  refine x_iadd (v := 26) hx hb dX3_putFigure_4 (by decide) ?_
  refine lv_istore (lv' := [(4, .int 26), (0, .ref q1), (1, .int 5), (2, .int 1), (3, .int 0)]) hx hb dX3_putFigure_5 hl (by decide) rfl (fun ls hl => ?_)
  refine lv_iload hx hb dX3_putFigure_7 (lv_at hl 0 rfl) ?_
  refine lv_if_lt (tgt := 30) hx hb dX3_putFigure_9 (by decide) (fun h => absurd h (by decide)) (fun _ => ?_)
  refine lv_iload hx hb dX3_putFigure_12 (lv_at hl 0 rfl) ?_
  refine lv_aload_n hx hb dX3_putFigure_14 rfl (lv_at hl 1 rfl) ?_
  refine gf_RX3_15 hx hb hown hE hP 1 rfl rfl dX3_putFigure_15 ?_
  refine x_aleni (v := 40) hx hb hE hP 0 rfl rfl dX3_putFigure_18 ?_
  refine lv_icmp_ge (tgt := 30) hx hb dX3_putFigure_19 (by decide) (fun h => absurd h (by decide)) (fun _ => ?_)
  refine lv_aload_n hx hb dX3_putFigure_22 rfl (lv_at hl 1 rfl) ?_
  refine gf_RX3_15 hx hb hown hE hP 1 rfl rfl dX3_putFigure_23 ?_
  refine lv_iload hx hb dX3_putFigure_26 (lv_at hl 0 rfl) ?_
  refine lv_iload_n hx hb dX3_putFigure_28 rfl (lv_at hl 4 rfl) ?_
  refine x_iast_same hx hb hE hP hD hS 0 rfl 26 (x_in (by decide)) (by decide) hf6 dX3_putFigure_29 (fun H locs hP hD hS => ?_)
  exact x_vret hx hb hr hlocks hP hD hS hAe hsz (Nat.le_of_ble_eq_true rfl) (Nat.le_of_ble_eq_true rfl) (fun _ => 0) [0, 1] (by decide) rfl dX3_putFigure_30

set_option maxHeartbeats 4000000 in
set_option maxRecDepth 100000 in
theorem c172_X3_putFigure (l : Launch) (g : gG) (q1 q4 : Nat) (w2 : Value) (f5 : Nat → Int32) (hf6 : f5 27 = 0) (sz : Nat) : Met l yX3_putFigure [Cond.code yX3_putFigure cX3_putFigure 5 none] ({ frames := 0, cells := 0, slots := 0, locals := 0 } : Room) (va_Pc [.ref q1, .int 5, .int 2, .int 0] (PX g sz [(q4, .inl (g.2 0, 40, .inl f5)), (q1, .inr (5, [w2, .ref q4]))])) (QV g [(q4, .inl (g.2 0, 40, .inl f5)), (q1, .inr (5, [w2, .ref q4]))] sz (fun _ => [(q4, .inl (g.2 0, 40, .inl f5)), (q1, .inr (5, [w2, .ref q4]))])) 0 0 (va_A [(q4, .inl (g.2 0, 40, .inl f5)), (q1, .inr (5, [w2, .ref q4]))] sz) := by
  refine ofN (by decide) (Nat.le_of_ble_eq_true rfl) rfl ?_
  intro p e s m args below meth c A ls hAe hsz hx hb hml hr hlocks hin hown hE hP hD hA hS hl
  have hown : s.vm.findClass RX3 = some m.cls := hown
  refine lv_iload_n hx hb dX3_putFigure_0 rfl (lv_at hl 1 rfl) ?_
  refine lv_iconst (v := 5) hx hb dX3_putFigure_1 (by decide) ?_
  refine x_imul (v := 25) hx hb dX3_putFigure_2 (by decide) ?_
  refine lv_iload_n hx hb dX3_putFigure_3 rfl (lv_at hl 2 rfl) ?_
  refine x_iadd (v := 27) hx hb dX3_putFigure_4 (by decide) ?_
  refine lv_istore (lv' := [(4, .int 27), (0, .ref q1), (1, .int 5), (2, .int 2), (3, .int 0)]) hx hb dX3_putFigure_5 hl (by decide) rfl (fun ls hl => ?_)
  refine lv_iload hx hb dX3_putFigure_7 (lv_at hl 0 rfl) ?_
  refine lv_if_lt (tgt := 30) hx hb dX3_putFigure_9 (by decide) (fun h => absurd h (by decide)) (fun _ => ?_)
  refine lv_iload hx hb dX3_putFigure_12 (lv_at hl 0 rfl) ?_
  refine lv_aload_n hx hb dX3_putFigure_14 rfl (lv_at hl 1 rfl) ?_
  refine gf_RX3_15 hx hb hown hE hP 1 rfl rfl dX3_putFigure_15 ?_
  refine x_aleni (v := 40) hx hb hE hP 0 rfl rfl dX3_putFigure_18 ?_
  refine lv_icmp_ge (tgt := 30) hx hb dX3_putFigure_19 (by decide) (fun h => absurd h (by decide)) (fun _ => ?_)
  refine lv_aload_n hx hb dX3_putFigure_22 rfl (lv_at hl 1 rfl) ?_
  refine gf_RX3_15 hx hb hown hE hP 1 rfl rfl dX3_putFigure_23 ?_
  refine lv_iload hx hb dX3_putFigure_26 (lv_at hl 0 rfl) ?_
  refine lv_iload_n hx hb dX3_putFigure_28 rfl (lv_at hl 4 rfl) ?_
  refine x_iast_same hx hb hE hP hD hS 0 rfl 27 (x_in (by decide)) (by decide) hf6 dX3_putFigure_29 (fun H locs hP hD hS => ?_)
  exact x_vret hx hb hr hlocks hP hD hS hAe hsz (Nat.le_of_ble_eq_true rfl) (Nat.le_of_ble_eq_true rfl) (fun _ => 0) [0, 1] (by decide) rfl dX3_putFigure_30

set_option maxHeartbeats 4000000 in
set_option maxRecDepth 100000 in
theorem c173_X3_putFigure (l : Launch) (g : gG) (q1 q4 : Nat) (w2 : Value) (f5 : Nat → Int32) (hf6 : f5 28 = 0) (sz : Nat) : Met l yX3_putFigure [Cond.code yX3_putFigure cX3_putFigure 5 none] ({ frames := 0, cells := 0, slots := 0, locals := 0 } : Room) (va_Pc [.ref q1, .int 5, .int 3, .int 0] (PX g sz [(q4, .inl (g.2 0, 40, .inl f5)), (q1, .inr (5, [w2, .ref q4]))])) (QV g [(q4, .inl (g.2 0, 40, .inl f5)), (q1, .inr (5, [w2, .ref q4]))] sz (fun _ => [(q4, .inl (g.2 0, 40, .inl f5)), (q1, .inr (5, [w2, .ref q4]))])) 0 0 (va_A [(q4, .inl (g.2 0, 40, .inl f5)), (q1, .inr (5, [w2, .ref q4]))] sz) := by
  refine ofN (by decide) (Nat.le_of_ble_eq_true rfl) rfl ?_
  intro p e s m args below meth c A ls hAe hsz hx hb hml hr hlocks hin hown hE hP hD hA hS hl
  have hown : s.vm.findClass RX3 = some m.cls := hown
  refine lv_iload_n hx hb dX3_putFigure_0 rfl (lv_at hl 1 rfl) ?_
  refine lv_iconst (v := 5) hx hb dX3_putFigure_1 (by decide) ?_
  refine x_imul (v := 25) hx hb dX3_putFigure_2 (by decide) ?_
  refine lv_iload_n hx hb dX3_putFigure_3 rfl (lv_at hl 2 rfl) ?_
  refine x_iadd (v := 28) hx hb dX3_putFigure_4 (by decide) ?_
  refine lv_istore (lv' := [(4, .int 28), (0, .ref q1), (1, .int 5), (2, .int 3), (3, .int 0)]) hx hb dX3_putFigure_5 hl (by decide) rfl (fun ls hl => ?_)
  refine lv_iload hx hb dX3_putFigure_7 (lv_at hl 0 rfl) ?_
  refine lv_if_lt (tgt := 30) hx hb dX3_putFigure_9 (by decide) (fun h => absurd h (by decide)) (fun _ => ?_)
  refine lv_iload hx hb dX3_putFigure_12 (lv_at hl 0 rfl) ?_
  refine lv_aload_n hx hb dX3_putFigure_14 rfl (lv_at hl 1 rfl) ?_
  refine gf_RX3_15 hx hb hown hE hP 1 rfl rfl dX3_putFigure_15 ?_
  refine x_aleni (v := 40) hx hb hE hP 0 rfl rfl dX3_putFigure_18 ?_
  refine lv_icmp_ge (tgt := 30) hx hb dX3_putFigure_19 (by decide) (fun h => absurd h (by decide)) (fun _ => ?_)
  refine lv_aload_n hx hb dX3_putFigure_22 rfl (lv_at hl 1 rfl) ?_
  refine gf_RX3_15 hx hb hown hE hP 1 rfl rfl dX3_putFigure_23 ?_
  refine lv_iload hx hb dX3_putFigure_26 (lv_at hl 0 rfl) ?_
  refine lv_iload_n hx hb dX3_putFigure_28 rfl (lv_at hl 4 rfl) ?_
  refine x_iast_same hx hb hE hP hD hS 0 rfl 28 (x_in (by decide)) (by decide) hf6 dX3_putFigure_29 (fun H locs hP hD hS => ?_)
  exact x_vret hx hb hr hlocks hP hD hS hAe hsz (Nat.le_of_ble_eq_true rfl) (Nat.le_of_ble_eq_true rfl) (fun _ => 0) [0, 1] (by decide) rfl dX3_putFigure_30

set_option maxHeartbeats 4000000 in
set_option maxRecDepth 100000 in
theorem c174_X3_measureOne (l : Launch) (g : gG) (q1 q4 : Nat) (w2 : Value) (f5 : Nat → Int32) (hf6 : f5 25 = 0) (hf7 : f5 26 = 0) (hf8 : f5 27 = 0) (hf9 : f5 28 = 0) (sz : Nat) : Met l yX3_measureOne [Cond.code yX3_measureOne cX3_measureOne 9 none] ({ frames := 1, cells := 0, slots := 0, locals := 24 } : Room) (va_Pc [.ref q1, .int 5] (PX g sz [(q4, .inl (g.2 0, 40, .inl f5)), (q1, .inr (5, [w2, .ref q4]))])) (QV g [(q4, .inl (g.2 0, 40, .inl f5)), (q1, .inr (5, [w2, .ref q4]))] sz (fun _ => [(q4, .inl (g.2 0, 40, .inl (upd f5 29 1))), (q1, .inr (5, [w2, .ref q4]))])) 0 0 (va_A [(q4, .inl (g.2 0, 40, .inl f5)), (q1, .inr (5, [w2, .ref q4]))] sz) := by
  refine ofN (by decide) (Nat.le_of_ble_eq_true rfl) rfl ?_
  intro p e s m args below meth c A ls hAe hsz hx hb hml hr hlocks hin hown hE hP hD hA hS hl
  have hown : s.vm.findClass RX3 = some m.cls := hown
  refine lv_iconst (v := 0) hx hb dX3_measureOne_0 (by decide) ?_
  refine lv_istore_n (lv' := [(2, .int 0), (0, .ref q1), (1, .int 5)]) hx hb dX3_measureOne_1 rfl hl (by decide) rfl (fun ls hl => ?_)
  refine lv_iconst (v := 0) hx hb dX3_measureOne_2 (by decide) ?_
  refine lv_istore_n (lv' := [(3, .int 0), (2, .int 0), (0, .ref q1), (1, .int 5)]) hx hb dX3_measureOne_3 rfl hl (by decide) rfl (fun ls hl => ?_)
  refine lv_iconst (v := 0) hx hb dX3_measureOne_4 (by decide) ?_
  refine lv_istore (lv' := [(4, .int 0), (3, .int 0), (2, .int 0), (0, .ref q1), (1, .int 5)]) hx hb dX3_measureOne_5 hl (by decide) rfl (fun ls hl => ?_)
  refine lv_iconst (v := 1) hx hb dX3_measureOne_7 (by decide) ?_
  refine lv_istore (lv' := [(5, .int 1), (4, .int 0), (3, .int 0), (2, .int 0), (0, .ref q1), (1, .int 5)]) hx hb dX3_measureOne_8 hl (by decide) rfl (fun ls hl => ?_)
  refine lv_aload_n hx hb dX3_measureOne_10 rfl (lv_at hl 4 rfl) ?_
  refine lv_iload_n hx hb dX3_measureOne_11 rfl (lv_at hl 5 rfl) ?_
  refine lv_iconst (v := 0) hx hb dX3_measureOne_12 (by decide) ?_
  refine g_i (wr := []) (rV (rest := []) hx hb hml hown hE hP hD 1 rfl rfl (c170_X3_figure l g q1 q4 w2 f5 (hf6) s.heap.size) (kV_X3_figure hE (e343 hE) rfl rfl ⟨(Nat.le_of_ble_eq_true rfl), (Nat.le_of_ble_eq_true rfl)⟩) [0, 1] rfl (by decide) rfl hl.1 rfl (lv_room (Nat.le_of_ble_eq_true rfl)) dX3_measureOne_13 ⟨(Nat.le_of_ble_eq_true rfl), (Nat.le_of_ble_eq_true rfl)⟩) hP hD hS hA [0, 1] [] rfl rfl (by decide) (by decide) (fun u1 H locs hP hD hS => ?_)
  have hP : va_P g.1 vwCl [(q4, .inl (g.2 0, 40, .inl f5)), (q1, .inr (5, [w2, .ref q4]))] H := hP
  have hD : va_D A [(q4, .inl (g.2 0, 40, .inl f5)), (q1, .inr (5, [w2, .ref q4]))] := hD
  refine lv_istore (lv' := [(6, .int 0), (5, .int 1), (4, .int 0), (3, .int 0), (2, .int 0), (0, .ref q1), (1, .int 5)]) hx hb dX3_measureOne_16 hl (by decide) rfl (fun ls hl => ?_)
  refine lv_iconst (v := 0) hx hb dX3_measureOne_18 (by decide) ?_
  refine lv_istore (lv' := [(7, .int 0), (6, .int 0), (5, .int 1), (4, .int 0), (3, .int 0), (2, .int 0), (0, .ref q1), (1, .int 5)]) hx hb dX3_measureOne_19 hl (by decide) rfl (fun ls hl => ?_)
  refine lv_iload hx hb dX3_measureOne_21 (lv_at hl 0 rfl) ?_
  refine lv_iload hx hb dX3_measureOne_23 (lv_at hl 1 rfl) ?_
  refine lv_icmp_ge (tgt := 109) hx hb dX3_measureOne_25 (by decide) (fun _ => ?_) (fun h => absurd (by decide) h)
  refine lv_aload_n hx hb dX3_measureOne_109 rfl (lv_at hl 6 rfl) ?_
  refine lv_iload_n hx hb dX3_measureOne_110 rfl (lv_at hl 7 rfl) ?_
  refine lv_iconst (v := 1) hx hb dX3_measureOne_111 (by decide) ?_
  refine lv_iload_n hx hb dX3_measureOne_112 rfl (lv_at hl 5 rfl) ?_
  refine g_v (wr := []) (rV (rest := []) hx hb hml hown hE hP hD 1 rfl rfl (c171_X3_putFigure l g q1 q4 w2 f5 (hf7) H.size) (kV_X3_putFigure hE (e91 hE) rfl rfl ⟨(Nat.le_of_ble_eq_true rfl), (Nat.le_of_ble_eq_true rfl)⟩) [0, 1] rfl (by decide) rfl hl.1 rfl (lv_room (Nat.le_of_ble_eq_true rfl)) dX3_measureOne_113 ⟨(Nat.le_of_ble_eq_true rfl), (Nat.le_of_ble_eq_true rfl)⟩) hP hD hS hA [0, 1] [] rfl rfl (by decide) (by decide) (fun u2 H locs hP hD hS => ?_)
  have hP : va_P g.1 vwCl [(q4, .inl (g.2 0, 40, .inl f5)), (q1, .inr (5, [w2, .ref q4]))] H := hP
  have hD : va_D A [(q4, .inl (g.2 0, 40, .inl f5)), (q1, .inr (5, [w2, .ref q4]))] := hD
  refine lv_aload_n hx hb dX3_measureOne_116 rfl (lv_at hl 6 rfl) ?_
  refine lv_iload_n hx hb dX3_measureOne_117 rfl (lv_at hl 7 rfl) ?_
  refine lv_iconst (v := 2) hx hb dX3_measureOne_118 (by decide) ?_
  refine lv_iload_n hx hb dX3_measureOne_119 rfl (lv_at hl 4 rfl) ?_
  refine g_v (wr := []) (rV (rest := []) hx hb hml hown hE hP hD 1 rfl rfl (c172_X3_putFigure l g q1 q4 w2 f5 (hf8) H.size) (kV_X3_putFigure hE (e91 hE) rfl rfl ⟨(Nat.le_of_ble_eq_true rfl), (Nat.le_of_ble_eq_true rfl)⟩) [0, 1] rfl (by decide) rfl hl.1 rfl (lv_room (Nat.le_of_ble_eq_true rfl)) dX3_measureOne_120 ⟨(Nat.le_of_ble_eq_true rfl), (Nat.le_of_ble_eq_true rfl)⟩) hP hD hS hA [0, 1] [] rfl rfl (by decide) (by decide) (fun u3 H locs hP hD hS => ?_)
  have hP : va_P g.1 vwCl [(q4, .inl (g.2 0, 40, .inl f5)), (q1, .inr (5, [w2, .ref q4]))] H := hP
  have hD : va_D A [(q4, .inl (g.2 0, 40, .inl f5)), (q1, .inr (5, [w2, .ref q4]))] := hD
  refine lv_aload_n hx hb dX3_measureOne_123 rfl (lv_at hl 6 rfl) ?_
  refine lv_iload_n hx hb dX3_measureOne_124 rfl (lv_at hl 7 rfl) ?_
  refine lv_iconst (v := 3) hx hb dX3_measureOne_125 (by decide) ?_
  refine lv_iload hx hb dX3_measureOne_126 (lv_at hl 3 rfl) ?_
  refine g_v (wr := []) (rV (rest := []) hx hb hml hown hE hP hD 1 rfl rfl (c173_X3_putFigure l g q1 q4 w2 f5 (hf9) H.size) (kV_X3_putFigure hE (e91 hE) rfl rfl ⟨(Nat.le_of_ble_eq_true rfl), (Nat.le_of_ble_eq_true rfl)⟩) [0, 1] rfl (by decide) rfl hl.1 rfl (lv_room (Nat.le_of_ble_eq_true rfl)) dX3_measureOne_128 ⟨(Nat.le_of_ble_eq_true rfl), (Nat.le_of_ble_eq_true rfl)⟩) hP hD hS hA [0, 1] [] rfl rfl (by decide) (by decide) (fun u4 H locs hP hD hS => ?_)
  have hP : va_P g.1 vwCl [(q4, .inl (g.2 0, 40, .inl f5)), (q1, .inr (5, [w2, .ref q4]))] H := hP
  have hD : va_D A [(q4, .inl (g.2 0, 40, .inl f5)), (q1, .inr (5, [w2, .ref q4]))] := hD
  refine lv_aload_n hx hb dX3_measureOne_131 rfl (lv_at hl 6 rfl) ?_
  refine lv_iload_n hx hb dX3_measureOne_132 rfl (lv_at hl 7 rfl) ?_
  refine lv_iconst (v := 4) hx hb dX3_measureOne_133 (by decide) ?_
  refine lv_iload hx hb dX3_measureOne_134 (lv_at hl 2 rfl) ?_
  refine g_v (wr := []) (rV (rest := []) hx hb hml hown hE hP hD 1 rfl rfl (c8_X3_putFigure l g q1 q4 w2 f5 H.size) (kV_X3_putFigure hE (e91 hE) rfl rfl ⟨(Nat.le_of_ble_eq_true rfl), (Nat.le_of_ble_eq_true rfl)⟩) [0, 1] rfl (by decide) rfl hl.1 rfl (lv_room (Nat.le_of_ble_eq_true rfl)) dX3_measureOne_136 ⟨(Nat.le_of_ble_eq_true rfl), (Nat.le_of_ble_eq_true rfl)⟩) hP hD hS hA [0, 1] [] rfl rfl (by decide) (by decide) (fun u5 H locs hP hD hS => ?_)
  have hP : va_P g.1 vwCl [(q4, .inl (g.2 0, 40, .inl (upd f5 29 1))), (q1, .inr (5, [w2, .ref q4]))] H := hP
  have hD : va_D A [(q4, .inl (g.2 0, 40, .inl (upd f5 29 1))), (q1, .inr (5, [w2, .ref q4]))] := hD
  exact x_vret hx hb hr hlocks hP hD hS hAe hsz (Nat.le_of_ble_eq_true rfl) (Nat.le_of_ble_eq_true rfl) (fun _ => 0) [0, 1] (by decide) rfl dX3_measureOne_139

set_option maxHeartbeats 4000000 in
set_option maxRecDepth 100000 in
theorem c175_X3_figure (l : Launch) (g : gG) (q1 q4 : Nat) (w2 : Value) (f5 : Nat → Int32) (hf6 : f5 26 = 0) (sz : Nat) : Met l yX3_figure [Cond.code yX3_figure cX3_figure 4 (some .int)] ({ frames := 0, cells := 0, slots := 0, locals := 0 } : Room) (va_Pc [.ref q1, .int 5, .int 1] (PX g sz [(q4, .inl (g.2 0, 40, .inl f5)), (q1, .inr (5, [w2, .ref q4]))])) (QI g [(q4, .inl (g.2 0, 40, .inl f5)), (q1, .inr (5, [w2, .ref q4]))] sz 0 (fun _ => [(q4, .inl (g.2 0, 40, .inl f5)), (q1, .inr (5, [w2, .ref q4]))])) 0 0 (va_A [(q4, .inl (g.2 0, 40, .inl f5)), (q1, .inr (5, [w2, .ref q4]))] sz) := by
  refine ofN (by decide) (Nat.le_of_ble_eq_true rfl) rfl ?_
  intro p e s m args below meth c A ls hAe hsz hx hb hml hr hlocks hin hown hE hP hD hA hS hl
  have hown : s.vm.findClass RX3 = some m.cls := hown
  refine lv_iload_n hx hb dX3_figure_0 rfl (lv_at hl 1 rfl) ?_
  refine lv_iconst (v := 5) hx hb dX3_figure_1 (by decide) ?_
  refine x_imul (v := 25) hx hb dX3_figure_2 (by decide) ?_
  refine lv_iload_n hx hb dX3_figure_3 rfl (lv_at hl 2 rfl) ?_
  refine x_iadd (v := 26) hx hb dX3_figure_4 (by decide) ?_
  refine lv_istore_n (lv' := [(3, .int 26), (0, .ref q1), (1, .int 5), (2, .int 1)]) hx hb dX3_figure_5 rfl hl (by decide) rfl (fun ls hl => ?_)
  refine lv_iload_n hx hb dX3_figure_6 rfl (lv_at hl 0 rfl) ?_
  refine lv_if_lt (tgt := 28) hx hb dX3_figure_7 (by decide) (fun h => absurd h (by decide)) (fun _ => ?_)
  refine lv_iload_n hx hb dX3_figure_10 rfl (lv_at hl 0 rfl) ?_
  refine lv_aload_n hx hb dX3_figure_11 rfl (lv_at hl 1 rfl) ?_
  refine gf_RX3_15 hx hb hown hE hP 1 rfl rfl dX3_figure_12 ?_
  refine x_aleni (v := 40) hx hb hE hP 0 rfl rfl dX3_figure_15 ?_
  refine lv_icmp_ge (tgt := 28) hx hb dX3_figure_16 (by decide) (fun h => absurd h (by decide)) (fun _ => ?_)
  refine lv_aload_n hx hb dX3_figure_19 rfl (lv_at hl 1 rfl) ?_
  refine gf_RX3_15 hx hb hown hE hP 1 rfl rfl dX3_figure_20 ?_
  refine lv_iload_n hx hb dX3_figure_23 rfl (lv_at hl 0 rfl) ?_
  refine x_iald (v := 0) hx hb hE hP 0 rfl 26 (x_in (by decide)) (by decide) hf6 dX3_figure_24 ?_
  refine lv_goto (tgt := 29) hx hb dX3_figure_25 (by decide) ?_
  exact x_zret hx hb hr rfl rfl hlocks hP hD hS hAe hsz (Nat.le_of_ble_eq_true rfl) (Nat.le_of_ble_eq_true rfl) (fun _ => 0) [0, 1] (by decide) rfl dX3_figure_29

set_option maxHeartbeats 4000000 in
set_option maxRecDepth 100000 in
theorem c176_X3_figure (l : Launch) (g : gG) (q1 q4 : Nat) (w2 : Value) (f5 : Nat → Int32) (hf6 : f5 30 = 0) (sz : Nat) : Met l yX3_figure [Cond.code yX3_figure cX3_figure 4 (some .int)] ({ frames := 0, cells := 0, slots := 0, locals := 0 } : Room) (va_Pc [.ref q1, .int 6, .int 0] (PX g sz [(q4, .inl (g.2 0, 40, .inl f5)), (q1, .inr (5, [w2, .ref q4]))])) (QI g [(q4, .inl (g.2 0, 40, .inl f5)), (q1, .inr (5, [w2, .ref q4]))] sz 0 (fun _ => [(q4, .inl (g.2 0, 40, .inl f5)), (q1, .inr (5, [w2, .ref q4]))])) 0 0 (va_A [(q4, .inl (g.2 0, 40, .inl f5)), (q1, .inr (5, [w2, .ref q4]))] sz) := by
  refine ofN (by decide) (Nat.le_of_ble_eq_true rfl) rfl ?_
  intro p e s m args below meth c A ls hAe hsz hx hb hml hr hlocks hin hown hE hP hD hA hS hl
  have hown : s.vm.findClass RX3 = some m.cls := hown
  refine lv_iload_n hx hb dX3_figure_0 rfl (lv_at hl 1 rfl) ?_
  refine lv_iconst (v := 5) hx hb dX3_figure_1 (by decide) ?_
  refine x_imul (v := 30) hx hb dX3_figure_2 (by decide) ?_
  refine lv_iload_n hx hb dX3_figure_3 rfl (lv_at hl 2 rfl) ?_
  refine x_iadd (v := 30) hx hb dX3_figure_4 (by decide) ?_
  refine lv_istore_n (lv' := [(3, .int 30), (0, .ref q1), (1, .int 6), (2, .int 0)]) hx hb dX3_figure_5 rfl hl (by decide) rfl (fun ls hl => ?_)
  refine lv_iload_n hx hb dX3_figure_6 rfl (lv_at hl 0 rfl) ?_
  refine lv_if_lt (tgt := 28) hx hb dX3_figure_7 (by decide) (fun h => absurd h (by decide)) (fun _ => ?_)
  refine lv_iload_n hx hb dX3_figure_10 rfl (lv_at hl 0 rfl) ?_
  refine lv_aload_n hx hb dX3_figure_11 rfl (lv_at hl 1 rfl) ?_
  refine gf_RX3_15 hx hb hown hE hP 1 rfl rfl dX3_figure_12 ?_
  refine x_aleni (v := 40) hx hb hE hP 0 rfl rfl dX3_figure_15 ?_
  refine lv_icmp_ge (tgt := 28) hx hb dX3_figure_16 (by decide) (fun h => absurd h (by decide)) (fun _ => ?_)
  refine lv_aload_n hx hb dX3_figure_19 rfl (lv_at hl 1 rfl) ?_
  refine gf_RX3_15 hx hb hown hE hP 1 rfl rfl dX3_figure_20 ?_
  refine lv_iload_n hx hb dX3_figure_23 rfl (lv_at hl 0 rfl) ?_
  refine x_iald (v := 0) hx hb hE hP 0 rfl 30 (x_in (by decide)) (by decide) hf6 dX3_figure_24 ?_
  refine lv_goto (tgt := 29) hx hb dX3_figure_25 (by decide) ?_
  exact x_zret hx hb hr rfl rfl hlocks hP hD hS hAe hsz (Nat.le_of_ble_eq_true rfl) (Nat.le_of_ble_eq_true rfl) (fun _ => 0) [0, 1] (by decide) rfl dX3_figure_29

set_option maxHeartbeats 4000000 in
set_option maxRecDepth 100000 in
theorem c177_X3_putFigure (l : Launch) (g : gG) (q1 q4 : Nat) (w2 : Value) (f5 : Nat → Int32) (hf6 : f5 31 = 0) (sz : Nat) : Met l yX3_putFigure [Cond.code yX3_putFigure cX3_putFigure 5 none] ({ frames := 0, cells := 0, slots := 0, locals := 0 } : Room) (va_Pc [.ref q1, .int 6, .int 1, .int 0] (PX g sz [(q4, .inl (g.2 0, 40, .inl f5)), (q1, .inr (5, [w2, .ref q4]))])) (QV g [(q4, .inl (g.2 0, 40, .inl f5)), (q1, .inr (5, [w2, .ref q4]))] sz (fun _ => [(q4, .inl (g.2 0, 40, .inl f5)), (q1, .inr (5, [w2, .ref q4]))])) 0 0 (va_A [(q4, .inl (g.2 0, 40, .inl f5)), (q1, .inr (5, [w2, .ref q4]))] sz) := by
  refine ofN (by decide) (Nat.le_of_ble_eq_true rfl) rfl ?_
  intro p e s m args below meth c A ls hAe hsz hx hb hml hr hlocks hin hown hE hP hD hA hS hl
  have hown : s.vm.findClass RX3 = some m.cls := hown
  refine lv_iload_n hx hb dX3_putFigure_0 rfl (lv_at hl 1 rfl) ?_
  refine lv_iconst (v := 5) hx hb dX3_putFigure_1 (by decide) ?_
  refine x_imul (v := 30) hx hb dX3_putFigure_2 (by decide) ?_
  refine lv_iload_n hx hb dX3_putFigure_3 rfl (lv_at hl 2 rfl) ?_
  refine x_iadd (v := 31) hx hb dX3_putFigure_4 (by decide) ?_
  refine lv_istore (lv' := [(4, .int 31), (0, .ref q1), (1, .int 6), (2, .int 1), (3, .int 0)]) hx hb dX3_putFigure_5 hl (by decide) rfl (fun ls hl => ?_)
  refine lv_iload hx hb dX3_putFigure_7 (lv_at hl 0 rfl) ?_
  refine lv_if_lt (tgt := 30) hx hb dX3_putFigure_9 (by decide) (fun h => absurd h (by decide)) (fun _ => ?_)
  refine lv_iload hx hb dX3_putFigure_12 (lv_at hl 0 rfl) ?_
  refine lv_aload_n hx hb dX3_putFigure_14 rfl (lv_at hl 1 rfl) ?_
  refine gf_RX3_15 hx hb hown hE hP 1 rfl rfl dX3_putFigure_15 ?_
  refine x_aleni (v := 40) hx hb hE hP 0 rfl rfl dX3_putFigure_18 ?_
  refine lv_icmp_ge (tgt := 30) hx hb dX3_putFigure_19 (by decide) (fun h => absurd h (by decide)) (fun _ => ?_)
  refine lv_aload_n hx hb dX3_putFigure_22 rfl (lv_at hl 1 rfl) ?_
  refine gf_RX3_15 hx hb hown hE hP 1 rfl rfl dX3_putFigure_23 ?_
  refine lv_iload hx hb dX3_putFigure_26 (lv_at hl 0 rfl) ?_
  refine lv_iload_n hx hb dX3_putFigure_28 rfl (lv_at hl 4 rfl) ?_
  refine x_iast_same hx hb hE hP hD hS 0 rfl 31 (x_in (by decide)) (by decide) hf6 dX3_putFigure_29 (fun H locs hP hD hS => ?_)
  exact x_vret hx hb hr hlocks hP hD hS hAe hsz (Nat.le_of_ble_eq_true rfl) (Nat.le_of_ble_eq_true rfl) (fun _ => 0) [0, 1] (by decide) rfl dX3_putFigure_30

set_option maxHeartbeats 4000000 in
set_option maxRecDepth 100000 in
theorem c178_X3_putFigure (l : Launch) (g : gG) (q1 q4 : Nat) (w2 : Value) (f5 : Nat → Int32) (hf6 : f5 32 = 0) (sz : Nat) : Met l yX3_putFigure [Cond.code yX3_putFigure cX3_putFigure 5 none] ({ frames := 0, cells := 0, slots := 0, locals := 0 } : Room) (va_Pc [.ref q1, .int 6, .int 2, .int 0] (PX g sz [(q4, .inl (g.2 0, 40, .inl f5)), (q1, .inr (5, [w2, .ref q4]))])) (QV g [(q4, .inl (g.2 0, 40, .inl f5)), (q1, .inr (5, [w2, .ref q4]))] sz (fun _ => [(q4, .inl (g.2 0, 40, .inl f5)), (q1, .inr (5, [w2, .ref q4]))])) 0 0 (va_A [(q4, .inl (g.2 0, 40, .inl f5)), (q1, .inr (5, [w2, .ref q4]))] sz) := by
  refine ofN (by decide) (Nat.le_of_ble_eq_true rfl) rfl ?_
  intro p e s m args below meth c A ls hAe hsz hx hb hml hr hlocks hin hown hE hP hD hA hS hl
  have hown : s.vm.findClass RX3 = some m.cls := hown
  refine lv_iload_n hx hb dX3_putFigure_0 rfl (lv_at hl 1 rfl) ?_
  refine lv_iconst (v := 5) hx hb dX3_putFigure_1 (by decide) ?_
  refine x_imul (v := 30) hx hb dX3_putFigure_2 (by decide) ?_
  refine lv_iload_n hx hb dX3_putFigure_3 rfl (lv_at hl 2 rfl) ?_
  refine x_iadd (v := 32) hx hb dX3_putFigure_4 (by decide) ?_
  refine lv_istore (lv' := [(4, .int 32), (0, .ref q1), (1, .int 6), (2, .int 2), (3, .int 0)]) hx hb dX3_putFigure_5 hl (by decide) rfl (fun ls hl => ?_)
  refine lv_iload hx hb dX3_putFigure_7 (lv_at hl 0 rfl) ?_
  refine lv_if_lt (tgt := 30) hx hb dX3_putFigure_9 (by decide) (fun h => absurd h (by decide)) (fun _ => ?_)
  refine lv_iload hx hb dX3_putFigure_12 (lv_at hl 0 rfl) ?_
  refine lv_aload_n hx hb dX3_putFigure_14 rfl (lv_at hl 1 rfl) ?_
  refine gf_RX3_15 hx hb hown hE hP 1 rfl rfl dX3_putFigure_15 ?_
  refine x_aleni (v := 40) hx hb hE hP 0 rfl rfl dX3_putFigure_18 ?_
  refine lv_icmp_ge (tgt := 30) hx hb dX3_putFigure_19 (by decide) (fun h => absurd h (by decide)) (fun _ => ?_)
  refine lv_aload_n hx hb dX3_putFigure_22 rfl (lv_at hl 1 rfl) ?_
  refine gf_RX3_15 hx hb hown hE hP 1 rfl rfl dX3_putFigure_23 ?_
  refine lv_iload hx hb dX3_putFigure_26 (lv_at hl 0 rfl) ?_
  refine lv_iload_n hx hb dX3_putFigure_28 rfl (lv_at hl 4 rfl) ?_
  refine x_iast_same hx hb hE hP hD hS 0 rfl 32 (x_in (by decide)) (by decide) hf6 dX3_putFigure_29 (fun H locs hP hD hS => ?_)
  exact x_vret hx hb hr hlocks hP hD hS hAe hsz (Nat.le_of_ble_eq_true rfl) (Nat.le_of_ble_eq_true rfl) (fun _ => 0) [0, 1] (by decide) rfl dX3_putFigure_30

set_option maxHeartbeats 4000000 in
set_option maxRecDepth 100000 in
theorem c179_X3_putFigure (l : Launch) (g : gG) (q1 q4 : Nat) (w2 : Value) (f5 : Nat → Int32) (hf6 : f5 33 = 0) (sz : Nat) : Met l yX3_putFigure [Cond.code yX3_putFigure cX3_putFigure 5 none] ({ frames := 0, cells := 0, slots := 0, locals := 0 } : Room) (va_Pc [.ref q1, .int 6, .int 3, .int 0] (PX g sz [(q4, .inl (g.2 0, 40, .inl f5)), (q1, .inr (5, [w2, .ref q4]))])) (QV g [(q4, .inl (g.2 0, 40, .inl f5)), (q1, .inr (5, [w2, .ref q4]))] sz (fun _ => [(q4, .inl (g.2 0, 40, .inl f5)), (q1, .inr (5, [w2, .ref q4]))])) 0 0 (va_A [(q4, .inl (g.2 0, 40, .inl f5)), (q1, .inr (5, [w2, .ref q4]))] sz) := by
  refine ofN (by decide) (Nat.le_of_ble_eq_true rfl) rfl ?_
  intro p e s m args below meth c A ls hAe hsz hx hb hml hr hlocks hin hown hE hP hD hA hS hl
  have hown : s.vm.findClass RX3 = some m.cls := hown
  refine lv_iload_n hx hb dX3_putFigure_0 rfl (lv_at hl 1 rfl) ?_
  refine lv_iconst (v := 5) hx hb dX3_putFigure_1 (by decide) ?_
  refine x_imul (v := 30) hx hb dX3_putFigure_2 (by decide) ?_
  refine lv_iload_n hx hb dX3_putFigure_3 rfl (lv_at hl 2 rfl) ?_
  refine x_iadd (v := 33) hx hb dX3_putFigure_4 (by decide) ?_
  refine lv_istore (lv' := [(4, .int 33), (0, .ref q1), (1, .int 6), (2, .int 3), (3, .int 0)]) hx hb dX3_putFigure_5 hl (by decide) rfl (fun ls hl => ?_)
  refine lv_iload hx hb dX3_putFigure_7 (lv_at hl 0 rfl) ?_
  refine lv_if_lt (tgt := 30) hx hb dX3_putFigure_9 (by decide) (fun h => absurd h (by decide)) (fun _ => ?_)
  refine lv_iload hx hb dX3_putFigure_12 (lv_at hl 0 rfl) ?_
  refine lv_aload_n hx hb dX3_putFigure_14 rfl (lv_at hl 1 rfl) ?_
  refine gf_RX3_15 hx hb hown hE hP 1 rfl rfl dX3_putFigure_15 ?_
  refine x_aleni (v := 40) hx hb hE hP 0 rfl rfl dX3_putFigure_18 ?_
  refine lv_icmp_ge (tgt := 30) hx hb dX3_putFigure_19 (by decide) (fun h => absurd h (by decide)) (fun _ => ?_)
  refine lv_aload_n hx hb dX3_putFigure_22 rfl (lv_at hl 1 rfl) ?_
  refine gf_RX3_15 hx hb hown hE hP 1 rfl rfl dX3_putFigure_23 ?_
  refine lv_iload hx hb dX3_putFigure_26 (lv_at hl 0 rfl) ?_
  refine lv_iload_n hx hb dX3_putFigure_28 rfl (lv_at hl 4 rfl) ?_
  refine x_iast_same hx hb hE hP hD hS 0 rfl 33 (x_in (by decide)) (by decide) hf6 dX3_putFigure_29 (fun H locs hP hD hS => ?_)
  exact x_vret hx hb hr hlocks hP hD hS hAe hsz (Nat.le_of_ble_eq_true rfl) (Nat.le_of_ble_eq_true rfl) (fun _ => 0) [0, 1] (by decide) rfl dX3_putFigure_30

set_option maxHeartbeats 4000000 in
set_option maxRecDepth 100000 in
theorem c180_X3_measureOne (l : Launch) (g : gG) (q1 q4 : Nat) (w2 : Value) (f5 : Nat → Int32) (hf6 : f5 30 = 0) (hf7 : f5 31 = 0) (hf8 : f5 32 = 0) (hf9 : f5 33 = 0) (sz : Nat) : Met l yX3_measureOne [Cond.code yX3_measureOne cX3_measureOne 9 none] ({ frames := 1, cells := 0, slots := 0, locals := 24 } : Room) (va_Pc [.ref q1, .int 6] (PX g sz [(q4, .inl (g.2 0, 40, .inl f5)), (q1, .inr (5, [w2, .ref q4]))])) (QV g [(q4, .inl (g.2 0, 40, .inl f5)), (q1, .inr (5, [w2, .ref q4]))] sz (fun _ => [(q4, .inl (g.2 0, 40, .inl (upd f5 34 1))), (q1, .inr (5, [w2, .ref q4]))])) 0 0 (va_A [(q4, .inl (g.2 0, 40, .inl f5)), (q1, .inr (5, [w2, .ref q4]))] sz) := by
  refine ofN (by decide) (Nat.le_of_ble_eq_true rfl) rfl ?_
  intro p e s m args below meth c A ls hAe hsz hx hb hml hr hlocks hin hown hE hP hD hA hS hl
  have hown : s.vm.findClass RX3 = some m.cls := hown
  refine lv_iconst (v := 0) hx hb dX3_measureOne_0 (by decide) ?_
  refine lv_istore_n (lv' := [(2, .int 0), (0, .ref q1), (1, .int 6)]) hx hb dX3_measureOne_1 rfl hl (by decide) rfl (fun ls hl => ?_)
  refine lv_iconst (v := 0) hx hb dX3_measureOne_2 (by decide) ?_
  refine lv_istore_n (lv' := [(3, .int 0), (2, .int 0), (0, .ref q1), (1, .int 6)]) hx hb dX3_measureOne_3 rfl hl (by decide) rfl (fun ls hl => ?_)
  refine lv_iconst (v := 0) hx hb dX3_measureOne_4 (by decide) ?_
  refine lv_istore (lv' := [(4, .int 0), (3, .int 0), (2, .int 0), (0, .ref q1), (1, .int 6)]) hx hb dX3_measureOne_5 hl (by decide) rfl (fun ls hl => ?_)
  refine lv_iconst (v := 1) hx hb dX3_measureOne_7 (by decide) ?_
  refine lv_istore (lv' := [(5, .int 1), (4, .int 0), (3, .int 0), (2, .int 0), (0, .ref q1), (1, .int 6)]) hx hb dX3_measureOne_8 hl (by decide) rfl (fun ls hl => ?_)
  refine lv_aload_n hx hb dX3_measureOne_10 rfl (lv_at hl 4 rfl) ?_
  refine lv_iload_n hx hb dX3_measureOne_11 rfl (lv_at hl 5 rfl) ?_
  refine lv_iconst (v := 0) hx hb dX3_measureOne_12 (by decide) ?_
  refine g_i (wr := []) (rV (rest := []) hx hb hml hown hE hP hD 1 rfl rfl (c176_X3_figure l g q1 q4 w2 f5 (hf6) s.heap.size) (kV_X3_figure hE (e343 hE) rfl rfl ⟨(Nat.le_of_ble_eq_true rfl), (Nat.le_of_ble_eq_true rfl)⟩) [0, 1] rfl (by decide) rfl hl.1 rfl (lv_room (Nat.le_of_ble_eq_true rfl)) dX3_measureOne_13 ⟨(Nat.le_of_ble_eq_true rfl), (Nat.le_of_ble_eq_true rfl)⟩) hP hD hS hA [0, 1] [] rfl rfl (by decide) (by decide) (fun u1 H locs hP hD hS => ?_)
  have hP : va_P g.1 vwCl [(q4, .inl (g.2 0, 40, .inl f5)), (q1, .inr (5, [w2, .ref q4]))] H := hP
  have hD : va_D A [(q4, .inl (g.2 0, 40, .inl f5)), (q1, .inr (5, [w2, .ref q4]))] := hD
  refine lv_istore (lv' := [(6, .int 0), (5, .int 1), (4, .int 0), (3, .int 0), (2, .int 0), (0, .ref q1), (1, .int 6)]) hx hb dX3_measureOne_16 hl (by decide) rfl (fun ls hl => ?_)
  refine lv_iconst (v := 0) hx hb dX3_measureOne_18 (by decide) ?_
  refine lv_istore (lv' := [(7, .int 0), (6, .int 0), (5, .int 1), (4, .int 0), (3, .int 0), (2, .int 0), (0, .ref q1), (1, .int 6)]) hx hb dX3_measureOne_19 hl (by decide) rfl (fun ls hl => ?_)
  refine lv_iload hx hb dX3_measureOne_21 (lv_at hl 0 rfl) ?_
  refine lv_iload hx hb dX3_measureOne_23 (lv_at hl 1 rfl) ?_
  refine lv_icmp_ge (tgt := 109) hx hb dX3_measureOne_25 (by decide) (fun _ => ?_) (fun h => absurd (by decide) h)
  refine lv_aload_n hx hb dX3_measureOne_109 rfl (lv_at hl 6 rfl) ?_
  refine lv_iload_n hx hb dX3_measureOne_110 rfl (lv_at hl 7 rfl) ?_
  refine lv_iconst (v := 1) hx hb dX3_measureOne_111 (by decide) ?_
  refine lv_iload_n hx hb dX3_measureOne_112 rfl (lv_at hl 5 rfl) ?_
  refine g_v (wr := []) (rV (rest := []) hx hb hml hown hE hP hD 1 rfl rfl (c177_X3_putFigure l g q1 q4 w2 f5 (hf7) H.size) (kV_X3_putFigure hE (e91 hE) rfl rfl ⟨(Nat.le_of_ble_eq_true rfl), (Nat.le_of_ble_eq_true rfl)⟩) [0, 1] rfl (by decide) rfl hl.1 rfl (lv_room (Nat.le_of_ble_eq_true rfl)) dX3_measureOne_113 ⟨(Nat.le_of_ble_eq_true rfl), (Nat.le_of_ble_eq_true rfl)⟩) hP hD hS hA [0, 1] [] rfl rfl (by decide) (by decide) (fun u2 H locs hP hD hS => ?_)
  have hP : va_P g.1 vwCl [(q4, .inl (g.2 0, 40, .inl f5)), (q1, .inr (5, [w2, .ref q4]))] H := hP
  have hD : va_D A [(q4, .inl (g.2 0, 40, .inl f5)), (q1, .inr (5, [w2, .ref q4]))] := hD
  refine lv_aload_n hx hb dX3_measureOne_116 rfl (lv_at hl 6 rfl) ?_
  refine lv_iload_n hx hb dX3_measureOne_117 rfl (lv_at hl 7 rfl) ?_
  refine lv_iconst (v := 2) hx hb dX3_measureOne_118 (by decide) ?_
  refine lv_iload_n hx hb dX3_measureOne_119 rfl (lv_at hl 4 rfl) ?_
  refine g_v (wr := []) (rV (rest := []) hx hb hml hown hE hP hD 1 rfl rfl (c178_X3_putFigure l g q1 q4 w2 f5 (hf8) H.size) (kV_X3_putFigure hE (e91 hE) rfl rfl ⟨(Nat.le_of_ble_eq_true rfl), (Nat.le_of_ble_eq_true rfl)⟩) [0, 1] rfl (by decide) rfl hl.1 rfl (lv_room (Nat.le_of_ble_eq_true rfl)) dX3_measureOne_120 ⟨(Nat.le_of_ble_eq_true rfl), (Nat.le_of_ble_eq_true rfl)⟩) hP hD hS hA [0, 1] [] rfl rfl (by decide) (by decide) (fun u3 H locs hP hD hS => ?_)
  have hP : va_P g.1 vwCl [(q4, .inl (g.2 0, 40, .inl f5)), (q1, .inr (5, [w2, .ref q4]))] H := hP
  have hD : va_D A [(q4, .inl (g.2 0, 40, .inl f5)), (q1, .inr (5, [w2, .ref q4]))] := hD
  refine lv_aload_n hx hb dX3_measureOne_123 rfl (lv_at hl 6 rfl) ?_
  refine lv_iload_n hx hb dX3_measureOne_124 rfl (lv_at hl 7 rfl) ?_
  refine lv_iconst (v := 3) hx hb dX3_measureOne_125 (by decide) ?_
  refine lv_iload hx hb dX3_measureOne_126 (lv_at hl 3 rfl) ?_
  refine g_v (wr := []) (rV (rest := []) hx hb hml hown hE hP hD 1 rfl rfl (c179_X3_putFigure l g q1 q4 w2 f5 (hf9) H.size) (kV_X3_putFigure hE (e91 hE) rfl rfl ⟨(Nat.le_of_ble_eq_true rfl), (Nat.le_of_ble_eq_true rfl)⟩) [0, 1] rfl (by decide) rfl hl.1 rfl (lv_room (Nat.le_of_ble_eq_true rfl)) dX3_measureOne_128 ⟨(Nat.le_of_ble_eq_true rfl), (Nat.le_of_ble_eq_true rfl)⟩) hP hD hS hA [0, 1] [] rfl rfl (by decide) (by decide) (fun u4 H locs hP hD hS => ?_)
  have hP : va_P g.1 vwCl [(q4, .inl (g.2 0, 40, .inl f5)), (q1, .inr (5, [w2, .ref q4]))] H := hP
  have hD : va_D A [(q4, .inl (g.2 0, 40, .inl f5)), (q1, .inr (5, [w2, .ref q4]))] := hD
  refine lv_aload_n hx hb dX3_measureOne_131 rfl (lv_at hl 6 rfl) ?_
  refine lv_iload_n hx hb dX3_measureOne_132 rfl (lv_at hl 7 rfl) ?_
  refine lv_iconst (v := 4) hx hb dX3_measureOne_133 (by decide) ?_
  refine lv_iload hx hb dX3_measureOne_134 (lv_at hl 2 rfl) ?_
  refine g_v (wr := []) (rV (rest := []) hx hb hml hown hE hP hD 1 rfl rfl (c9_X3_putFigure l g q1 q4 w2 f5 H.size) (kV_X3_putFigure hE (e91 hE) rfl rfl ⟨(Nat.le_of_ble_eq_true rfl), (Nat.le_of_ble_eq_true rfl)⟩) [0, 1] rfl (by decide) rfl hl.1 rfl (lv_room (Nat.le_of_ble_eq_true rfl)) dX3_measureOne_136 ⟨(Nat.le_of_ble_eq_true rfl), (Nat.le_of_ble_eq_true rfl)⟩) hP hD hS hA [0, 1] [] rfl rfl (by decide) (by decide) (fun u5 H locs hP hD hS => ?_)
  have hP : va_P g.1 vwCl [(q4, .inl (g.2 0, 40, .inl (upd f5 34 1))), (q1, .inr (5, [w2, .ref q4]))] H := hP
  have hD : va_D A [(q4, .inl (g.2 0, 40, .inl (upd f5 34 1))), (q1, .inr (5, [w2, .ref q4]))] := hD
  exact x_vret hx hb hr hlocks hP hD hS hAe hsz (Nat.le_of_ble_eq_true rfl) (Nat.le_of_ble_eq_true rfl) (fun _ => 0) [0, 1] (by decide) rfl dX3_measureOne_139

set_option maxHeartbeats 4000000 in
set_option maxRecDepth 100000 in
theorem c181_X3_figure (l : Launch) (g : gG) (q1 q4 : Nat) (w2 : Value) (f5 : Nat → Int32) (hf6 : f5 31 = 0) (sz : Nat) : Met l yX3_figure [Cond.code yX3_figure cX3_figure 4 (some .int)] ({ frames := 0, cells := 0, slots := 0, locals := 0 } : Room) (va_Pc [.ref q1, .int 6, .int 1] (PX g sz [(q4, .inl (g.2 0, 40, .inl f5)), (q1, .inr (5, [w2, .ref q4]))])) (QI g [(q4, .inl (g.2 0, 40, .inl f5)), (q1, .inr (5, [w2, .ref q4]))] sz 0 (fun _ => [(q4, .inl (g.2 0, 40, .inl f5)), (q1, .inr (5, [w2, .ref q4]))])) 0 0 (va_A [(q4, .inl (g.2 0, 40, .inl f5)), (q1, .inr (5, [w2, .ref q4]))] sz) := by
  refine ofN (by decide) (Nat.le_of_ble_eq_true rfl) rfl ?_
  intro p e s m args below meth c A ls hAe hsz hx hb hml hr hlocks hin hown hE hP hD hA hS hl
  have hown : s.vm.findClass RX3 = some m.cls := hown
  refine lv_iload_n hx hb dX3_figure_0 rfl (lv_at hl 1 rfl) ?_
  refine lv_iconst (v := 5) hx hb dX3_figure_1 (by decide) ?_
  refine x_imul (v := 30) hx hb dX3_figure_2 (by decide) ?_
  refine lv_iload_n hx hb dX3_figure_3 rfl (lv_at hl 2 rfl) ?_
  refine x_iadd (v := 31) hx hb dX3_figure_4 (by decide) ?_
  refine lv_istore_n (lv' := [(3, .int 31), (0, .ref q1), (1, .int 6), (2, .int 1)]) hx hb dX3_figure_5 rfl hl (by decide) rfl (fun ls hl => ?_)
  refine lv_iload_n hx hb dX3_figure_6 rfl (lv_at hl 0 rfl) ?_
  refine lv_if_lt (tgt := 28) hx hb dX3_figure_7 (by decide) (fun h => absurd h (by decide)) (fun _ => ?_)
  refine lv_iload_n hx hb dX3_figure_10 rfl (lv_at hl 0 rfl) ?_
  refine lv_aload_n hx hb dX3_figure_11 rfl (lv_at hl 1 rfl) ?_
  refine gf_RX3_15 hx hb hown hE hP 1 rfl rfl dX3_figure_12 ?_
  refine x_aleni (v := 40) hx hb hE hP 0 rfl rfl dX3_figure_15 ?_
  refine lv_icmp_ge (tgt := 28) hx hb dX3_figure_16 (by decide) (fun h => absurd h (by decide)) (fun _ => ?_)
  refine lv_aload_n hx hb dX3_figure_19 rfl (lv_at hl 1 rfl) ?_
  refine gf_RX3_15 hx hb hown hE hP 1 rfl rfl dX3_figure_20 ?_
  refine lv_iload_n hx hb dX3_figure_23 rfl (lv_at hl 0 rfl) ?_
  refine x_iald (v := 0) hx hb hE hP 0 rfl 31 (x_in (by decide)) (by decide) hf6 dX3_figure_24 ?_
  refine lv_goto (tgt := 29) hx hb dX3_figure_25 (by decide) ?_
  exact x_zret hx hb hr rfl rfl hlocks hP hD hS hAe hsz (Nat.le_of_ble_eq_true rfl) (Nat.le_of_ble_eq_true rfl) (fun _ => 0) [0, 1] (by decide) rfl dX3_figure_29

set_option maxHeartbeats 4000000 in
set_option maxRecDepth 100000 in
theorem c182_X3_figure (l : Launch) (g : gG) (q1 q4 : Nat) (w2 : Value) (f5 : Nat → Int32) (hf6 : f5 35 = 0) (sz : Nat) : Met l yX3_figure [Cond.code yX3_figure cX3_figure 4 (some .int)] ({ frames := 0, cells := 0, slots := 0, locals := 0 } : Room) (va_Pc [.ref q1, .int 7, .int 0] (PX g sz [(q4, .inl (g.2 0, 40, .inl f5)), (q1, .inr (5, [w2, .ref q4]))])) (QI g [(q4, .inl (g.2 0, 40, .inl f5)), (q1, .inr (5, [w2, .ref q4]))] sz 0 (fun _ => [(q4, .inl (g.2 0, 40, .inl f5)), (q1, .inr (5, [w2, .ref q4]))])) 0 0 (va_A [(q4, .inl (g.2 0, 40, .inl f5)), (q1, .inr (5, [w2, .ref q4]))] sz) := by
  refine ofN (by decide) (Nat.le_of_ble_eq_true rfl) rfl ?_
  intro p e s m args below meth c A ls hAe hsz hx hb hml hr hlocks hin hown hE hP hD hA hS hl
  have hown : s.vm.findClass RX3 = some m.cls := hown
  refine lv_iload_n hx hb dX3_figure_0 rfl (lv_at hl 1 rfl) ?_
  refine lv_iconst (v := 5) hx hb dX3_figure_1 (by decide) ?_
  refine x_imul (v := 35) hx hb dX3_figure_2 (by decide) ?_
  refine lv_iload_n hx hb dX3_figure_3 rfl (lv_at hl 2 rfl) ?_
  refine x_iadd (v := 35) hx hb dX3_figure_4 (by decide) ?_
  refine lv_istore_n (lv' := [(3, .int 35), (0, .ref q1), (1, .int 7), (2, .int 0)]) hx hb dX3_figure_5 rfl hl (by decide) rfl (fun ls hl => ?_)
  refine lv_iload_n hx hb dX3_figure_6 rfl (lv_at hl 0 rfl) ?_
  refine lv_if_lt (tgt := 28) hx hb dX3_figure_7 (by decide) (fun h => absurd h (by decide)) (fun _ => ?_)
  refine lv_iload_n hx hb dX3_figure_10 rfl (lv_at hl 0 rfl) ?_
  refine lv_aload_n hx hb dX3_figure_11 rfl (lv_at hl 1 rfl) ?_
  refine gf_RX3_15 hx hb hown hE hP 1 rfl rfl dX3_figure_12 ?_
  refine x_aleni (v := 40) hx hb hE hP 0 rfl rfl dX3_figure_15 ?_
  refine lv_icmp_ge (tgt := 28) hx hb dX3_figure_16 (by decide) (fun h => absurd h (by decide)) (fun _ => ?_)
  refine lv_aload_n hx hb dX3_figure_19 rfl (lv_at hl 1 rfl) ?_
  refine gf_RX3_15 hx hb hown hE hP 1 rfl rfl dX3_figure_20 ?_
  refine lv_iload_n hx hb dX3_figure_23 rfl (lv_at hl 0 rfl) ?_
  refine x_iald (v := 0) hx hb hE hP 0 rfl 35 (x_in (by decide)) (by decide) hf6 dX3_figure_24 ?_
  refine lv_goto (tgt := 29) hx hb dX3_figure_25 (by decide) ?_
  exact x_zret hx hb hr rfl rfl hlocks hP hD hS hAe hsz (Nat.le_of_ble_eq_true rfl) (Nat.le_of_ble_eq_true rfl) (fun _ => 0) [0, 1] (by decide) rfl dX3_figure_29

set_option maxHeartbeats 4000000 in
set_option maxRecDepth 100000 in
theorem c183_X3_putFigure (l : Launch) (g : gG) (q1 q4 : Nat) (w2 : Value) (f5 : Nat → Int32) (hf6 : f5 36 = 0) (sz : Nat) : Met l yX3_putFigure [Cond.code yX3_putFigure cX3_putFigure 5 none] ({ frames := 0, cells := 0, slots := 0, locals := 0 } : Room) (va_Pc [.ref q1, .int 7, .int 1, .int 0] (PX g sz [(q4, .inl (g.2 0, 40, .inl f5)), (q1, .inr (5, [w2, .ref q4]))])) (QV g [(q4, .inl (g.2 0, 40, .inl f5)), (q1, .inr (5, [w2, .ref q4]))] sz (fun _ => [(q4, .inl (g.2 0, 40, .inl f5)), (q1, .inr (5, [w2, .ref q4]))])) 0 0 (va_A [(q4, .inl (g.2 0, 40, .inl f5)), (q1, .inr (5, [w2, .ref q4]))] sz) := by
  refine ofN (by decide) (Nat.le_of_ble_eq_true rfl) rfl ?_
  intro p e s m args below meth c A ls hAe hsz hx hb hml hr hlocks hin hown hE hP hD hA hS hl
  have hown : s.vm.findClass RX3 = some m.cls := hown
  refine lv_iload_n hx hb dX3_putFigure_0 rfl (lv_at hl 1 rfl) ?_
  refine lv_iconst (v := 5) hx hb dX3_putFigure_1 (by decide) ?_
  refine x_imul (v := 35) hx hb dX3_putFigure_2 (by decide) ?_
  refine lv_iload_n hx hb dX3_putFigure_3 rfl (lv_at hl 2 rfl) ?_
  refine x_iadd (v := 36) hx hb dX3_putFigure_4 (by decide) ?_
  refine lv_istore (lv' := [(4, .int 36), (0, .ref q1), (1, .int 7), (2, .int 1), (3, .int 0)]) hx hb dX3_putFigure_5 hl (by decide) rfl (fun ls hl => ?_)
  refine lv_iload hx hb dX3_putFigure_7 (lv_at hl 0 rfl) ?_
  refine lv_if_lt (tgt := 30) hx hb dX3_putFigure_9 (by decide) (fun h => absurd h (by decide)) (fun _ => ?_)
  refine lv_iload hx hb dX3_putFigure_12 (lv_at hl 0 rfl) ?_
  refine lv_aload_n hx hb dX3_putFigure_14 rfl (lv_at hl 1 rfl) ?_
  refine gf_RX3_15 hx hb hown hE hP 1 rfl rfl dX3_putFigure_15 ?_
  refine x_aleni (v := 40) hx hb hE hP 0 rfl rfl dX3_putFigure_18 ?_
  refine lv_icmp_ge (tgt := 30) hx hb dX3_putFigure_19 (by decide) (fun h => absurd h (by decide)) (fun _ => ?_)
  refine lv_aload_n hx hb dX3_putFigure_22 rfl (lv_at hl 1 rfl) ?_
  refine gf_RX3_15 hx hb hown hE hP 1 rfl rfl dX3_putFigure_23 ?_
  refine lv_iload hx hb dX3_putFigure_26 (lv_at hl 0 rfl) ?_
  refine lv_iload_n hx hb dX3_putFigure_28 rfl (lv_at hl 4 rfl) ?_
  refine x_iast_same hx hb hE hP hD hS 0 rfl 36 (x_in (by decide)) (by decide) hf6 dX3_putFigure_29 (fun H locs hP hD hS => ?_)
  exact x_vret hx hb hr hlocks hP hD hS hAe hsz (Nat.le_of_ble_eq_true rfl) (Nat.le_of_ble_eq_true rfl) (fun _ => 0) [0, 1] (by decide) rfl dX3_putFigure_30

set_option maxHeartbeats 4000000 in
set_option maxRecDepth 100000 in
theorem c184_X3_putFigure (l : Launch) (g : gG) (q1 q4 : Nat) (w2 : Value) (f5 : Nat → Int32) (hf6 : f5 37 = 0) (sz : Nat) : Met l yX3_putFigure [Cond.code yX3_putFigure cX3_putFigure 5 none] ({ frames := 0, cells := 0, slots := 0, locals := 0 } : Room) (va_Pc [.ref q1, .int 7, .int 2, .int 0] (PX g sz [(q4, .inl (g.2 0, 40, .inl f5)), (q1, .inr (5, [w2, .ref q4]))])) (QV g [(q4, .inl (g.2 0, 40, .inl f5)), (q1, .inr (5, [w2, .ref q4]))] sz (fun _ => [(q4, .inl (g.2 0, 40, .inl f5)), (q1, .inr (5, [w2, .ref q4]))])) 0 0 (va_A [(q4, .inl (g.2 0, 40, .inl f5)), (q1, .inr (5, [w2, .ref q4]))] sz) := by
  refine ofN (by decide) (Nat.le_of_ble_eq_true rfl) rfl ?_
  intro p e s m args below meth c A ls hAe hsz hx hb hml hr hlocks hin hown hE hP hD hA hS hl
  have hown : s.vm.findClass RX3 = some m.cls := hown
  refine lv_iload_n hx hb dX3_putFigure_0 rfl (lv_at hl 1 rfl) ?_
  refine lv_iconst (v := 5) hx hb dX3_putFigure_1 (by decide) ?_
  refine x_imul (v := 35) hx hb dX3_putFigure_2 (by decide) ?_
  refine lv_iload_n hx hb dX3_putFigure_3 rfl (lv_at hl 2 rfl) ?_
  refine x_iadd (v := 37) hx hb dX3_putFigure_4 (by decide) ?_
  refine lv_istore (lv' := [(4, .int 37), (0, .ref q1), (1, .int 7), (2, .int 2), (3, .int 0)]) hx hb dX3_putFigure_5 hl (by decide) rfl (fun ls hl => ?_)
  refine lv_iload hx hb dX3_putFigure_7 (lv_at hl 0 rfl) ?_
  refine lv_if_lt (tgt := 30) hx hb dX3_putFigure_9 (by decide) (fun h => absurd h (by decide)) (fun _ => ?_)
  refine lv_iload hx hb dX3_putFigure_12 (lv_at hl 0 rfl) ?_
  refine lv_aload_n hx hb dX3_putFigure_14 rfl (lv_at hl 1 rfl) ?_
  refine gf_RX3_15 hx hb hown hE hP 1 rfl rfl dX3_putFigure_15 ?_
  refine x_aleni (v := 40) hx hb hE hP 0 rfl rfl dX3_putFigure_18 ?_
  refine lv_icmp_ge (tgt := 30) hx hb dX3_putFigure_19 (by decide) (fun h => absurd h (by decide)) (fun _ => ?_)
  refine lv_aload_n hx hb dX3_putFigure_22 rfl (lv_at hl 1 rfl) ?_
  refine gf_RX3_15 hx hb hown hE hP 1 rfl rfl dX3_putFigure_23 ?_
  refine lv_iload hx hb dX3_putFigure_26 (lv_at hl 0 rfl) ?_
  refine lv_iload_n hx hb dX3_putFigure_28 rfl (lv_at hl 4 rfl) ?_
  refine x_iast_same hx hb hE hP hD hS 0 rfl 37 (x_in (by decide)) (by decide) hf6 dX3_putFigure_29 (fun H locs hP hD hS => ?_)
  exact x_vret hx hb hr hlocks hP hD hS hAe hsz (Nat.le_of_ble_eq_true rfl) (Nat.le_of_ble_eq_true rfl) (fun _ => 0) [0, 1] (by decide) rfl dX3_putFigure_30

set_option maxHeartbeats 4000000 in
set_option maxRecDepth 100000 in
theorem c185_X3_putFigure (l : Launch) (g : gG) (q1 q4 : Nat) (w2 : Value) (f5 : Nat → Int32) (hf6 : f5 38 = 0) (sz : Nat) : Met l yX3_putFigure [Cond.code yX3_putFigure cX3_putFigure 5 none] ({ frames := 0, cells := 0, slots := 0, locals := 0 } : Room) (va_Pc [.ref q1, .int 7, .int 3, .int 0] (PX g sz [(q4, .inl (g.2 0, 40, .inl f5)), (q1, .inr (5, [w2, .ref q4]))])) (QV g [(q4, .inl (g.2 0, 40, .inl f5)), (q1, .inr (5, [w2, .ref q4]))] sz (fun _ => [(q4, .inl (g.2 0, 40, .inl f5)), (q1, .inr (5, [w2, .ref q4]))])) 0 0 (va_A [(q4, .inl (g.2 0, 40, .inl f5)), (q1, .inr (5, [w2, .ref q4]))] sz) := by
  refine ofN (by decide) (Nat.le_of_ble_eq_true rfl) rfl ?_
  intro p e s m args below meth c A ls hAe hsz hx hb hml hr hlocks hin hown hE hP hD hA hS hl
  have hown : s.vm.findClass RX3 = some m.cls := hown
  refine lv_iload_n hx hb dX3_putFigure_0 rfl (lv_at hl 1 rfl) ?_
  refine lv_iconst (v := 5) hx hb dX3_putFigure_1 (by decide) ?_
  refine x_imul (v := 35) hx hb dX3_putFigure_2 (by decide) ?_
  refine lv_iload_n hx hb dX3_putFigure_3 rfl (lv_at hl 2 rfl) ?_
  refine x_iadd (v := 38) hx hb dX3_putFigure_4 (by decide) ?_
  refine lv_istore (lv' := [(4, .int 38), (0, .ref q1), (1, .int 7), (2, .int 3), (3, .int 0)]) hx hb dX3_putFigure_5 hl (by decide) rfl (fun ls hl => ?_)
  refine lv_iload hx hb dX3_putFigure_7 (lv_at hl 0 rfl) ?_
  refine lv_if_lt (tgt := 30) hx hb dX3_putFigure_9 (by decide) (fun h => absurd h (by decide)) (fun _ => ?_)
  refine lv_iload hx hb dX3_putFigure_12 (lv_at hl 0 rfl) ?_
  refine lv_aload_n hx hb dX3_putFigure_14 rfl (lv_at hl 1 rfl) ?_
  refine gf_RX3_15 hx hb hown hE hP 1 rfl rfl dX3_putFigure_15 ?_
  refine x_aleni (v := 40) hx hb hE hP 0 rfl rfl dX3_putFigure_18 ?_
  refine lv_icmp_ge (tgt := 30) hx hb dX3_putFigure_19 (by decide) (fun h => absurd h (by decide)) (fun _ => ?_)
  refine lv_aload_n hx hb dX3_putFigure_22 rfl (lv_at hl 1 rfl) ?_
  refine gf_RX3_15 hx hb hown hE hP 1 rfl rfl dX3_putFigure_23 ?_
  refine lv_iload hx hb dX3_putFigure_26 (lv_at hl 0 rfl) ?_
  refine lv_iload_n hx hb dX3_putFigure_28 rfl (lv_at hl 4 rfl) ?_
  refine x_iast_same hx hb hE hP hD hS 0 rfl 38 (x_in (by decide)) (by decide) hf6 dX3_putFigure_29 (fun H locs hP hD hS => ?_)
  exact x_vret hx hb hr hlocks hP hD hS hAe hsz (Nat.le_of_ble_eq_true rfl) (Nat.le_of_ble_eq_true rfl) (fun _ => 0) [0, 1] (by decide) rfl dX3_putFigure_30

set_option maxHeartbeats 4000000 in
set_option maxRecDepth 100000 in
theorem c186_X3_measureOne (l : Launch) (g : gG) (q1 q4 : Nat) (w2 : Value) (f5 : Nat → Int32) (hf6 : f5 35 = 0) (hf7 : f5 36 = 0) (hf8 : f5 37 = 0) (hf9 : f5 38 = 0) (sz : Nat) : Met l yX3_measureOne [Cond.code yX3_measureOne cX3_measureOne 9 none] ({ frames := 1, cells := 0, slots := 0, locals := 24 } : Room) (va_Pc [.ref q1, .int 7] (PX g sz [(q4, .inl (g.2 0, 40, .inl f5)), (q1, .inr (5, [w2, .ref q4]))])) (QV g [(q4, .inl (g.2 0, 40, .inl f5)), (q1, .inr (5, [w2, .ref q4]))] sz (fun _ => [(q4, .inl (g.2 0, 40, .inl (upd f5 39 1))), (q1, .inr (5, [w2, .ref q4]))])) 0 0 (va_A [(q4, .inl (g.2 0, 40, .inl f5)), (q1, .inr (5, [w2, .ref q4]))] sz) := by
  refine ofN (by decide) (Nat.le_of_ble_eq_true rfl) rfl ?_
  intro p e s m args below meth c A ls hAe hsz hx hb hml hr hlocks hin hown hE hP hD hA hS hl
  have hown : s.vm.findClass RX3 = some m.cls := hown
  refine lv_iconst (v := 0) hx hb dX3_measureOne_0 (by decide) ?_
  refine lv_istore_n (lv' := [(2, .int 0), (0, .ref q1), (1, .int 7)]) hx hb dX3_measureOne_1 rfl hl (by decide) rfl (fun ls hl => ?_)
  refine lv_iconst (v := 0) hx hb dX3_measureOne_2 (by decide) ?_
  refine lv_istore_n (lv' := [(3, .int 0), (2, .int 0), (0, .ref q1), (1, .int 7)]) hx hb dX3_measureOne_3 rfl hl (by decide) rfl (fun ls hl => ?_)
  refine lv_iconst (v := 0) hx hb dX3_measureOne_4 (by decide) ?_
  refine lv_istore (lv' := [(4, .int 0), (3, .int 0), (2, .int 0), (0, .ref q1), (1, .int 7)]) hx hb dX3_measureOne_5 hl (by decide) rfl (fun ls hl => ?_)
  refine lv_iconst (v := 1) hx hb dX3_measureOne_7 (by decide) ?_
  refine lv_istore (lv' := [(5, .int 1), (4, .int 0), (3, .int 0), (2, .int 0), (0, .ref q1), (1, .int 7)]) hx hb dX3_measureOne_8 hl (by decide) rfl (fun ls hl => ?_)
  refine lv_aload_n hx hb dX3_measureOne_10 rfl (lv_at hl 4 rfl) ?_
  refine lv_iload_n hx hb dX3_measureOne_11 rfl (lv_at hl 5 rfl) ?_
  refine lv_iconst (v := 0) hx hb dX3_measureOne_12 (by decide) ?_
  refine g_i (wr := []) (rV (rest := []) hx hb hml hown hE hP hD 1 rfl rfl (c182_X3_figure l g q1 q4 w2 f5 (hf6) s.heap.size) (kV_X3_figure hE (e343 hE) rfl rfl ⟨(Nat.le_of_ble_eq_true rfl), (Nat.le_of_ble_eq_true rfl)⟩) [0, 1] rfl (by decide) rfl hl.1 rfl (lv_room (Nat.le_of_ble_eq_true rfl)) dX3_measureOne_13 ⟨(Nat.le_of_ble_eq_true rfl), (Nat.le_of_ble_eq_true rfl)⟩) hP hD hS hA [0, 1] [] rfl rfl (by decide) (by decide) (fun u1 H locs hP hD hS => ?_)
  have hP : va_P g.1 vwCl [(q4, .inl (g.2 0, 40, .inl f5)), (q1, .inr (5, [w2, .ref q4]))] H := hP
  have hD : va_D A [(q4, .inl (g.2 0, 40, .inl f5)), (q1, .inr (5, [w2, .ref q4]))] := hD
  refine lv_istore (lv' := [(6, .int 0), (5, .int 1), (4, .int 0), (3, .int 0), (2, .int 0), (0, .ref q1), (1, .int 7)]) hx hb dX3_measureOne_16 hl (by decide) rfl (fun ls hl => ?_)
  refine lv_iconst (v := 0) hx hb dX3_measureOne_18 (by decide) ?_
  refine lv_istore (lv' := [(7, .int 0), (6, .int 0), (5, .int 1), (4, .int 0), (3, .int 0), (2, .int 0), (0, .ref q1), (1, .int 7)]) hx hb dX3_measureOne_19 hl (by decide) rfl (fun ls hl => ?_)
  refine lv_iload hx hb dX3_measureOne_21 (lv_at hl 0 rfl) ?_
  refine lv_iload hx hb dX3_measureOne_23 (lv_at hl 1 rfl) ?_
  refine lv_icmp_ge (tgt := 109) hx hb dX3_measureOne_25 (by decide) (fun _ => ?_) (fun h => absurd (by decide) h)
  refine lv_aload_n hx hb dX3_measureOne_109 rfl (lv_at hl 6 rfl) ?_
  refine lv_iload_n hx hb dX3_measureOne_110 rfl (lv_at hl 7 rfl) ?_
  refine lv_iconst (v := 1) hx hb dX3_measureOne_111 (by decide) ?_
  refine lv_iload_n hx hb dX3_measureOne_112 rfl (lv_at hl 5 rfl) ?_
  refine g_v (wr := []) (rV (rest := []) hx hb hml hown hE hP hD 1 rfl rfl (c183_X3_putFigure l g q1 q4 w2 f5 (hf7) H.size) (kV_X3_putFigure hE (e91 hE) rfl rfl ⟨(Nat.le_of_ble_eq_true rfl), (Nat.le_of_ble_eq_true rfl)⟩) [0, 1] rfl (by decide) rfl hl.1 rfl (lv_room (Nat.le_of_ble_eq_true rfl)) dX3_measureOne_113 ⟨(Nat.le_of_ble_eq_true rfl), (Nat.le_of_ble_eq_true rfl)⟩) hP hD hS hA [0, 1] [] rfl rfl (by decide) (by decide) (fun u2 H locs hP hD hS => ?_)
  have hP : va_P g.1 vwCl [(q4, .inl (g.2 0, 40, .inl f5)), (q1, .inr (5, [w2, .ref q4]))] H := hP
  have hD : va_D A [(q4, .inl (g.2 0, 40, .inl f5)), (q1, .inr (5, [w2, .ref q4]))] := hD
  refine lv_aload_n hx hb dX3_measureOne_116 rfl (lv_at hl 6 rfl) ?_
  refine lv_iload_n hx hb dX3_measureOne_117 rfl (lv_at hl 7 rfl) ?_
  refine lv_iconst (v := 2) hx hb dX3_measureOne_118 (by decide) ?_
  refine lv_iload_n hx hb dX3_measureOne_119 rfl (lv_at hl 4 rfl) ?_
  refine g_v (wr := []) (rV (rest := []) hx hb hml hown hE hP hD 1 rfl rfl (c184_X3_putFigure l g q1 q4 w2 f5 (hf8) H.size) (kV_X3_putFigure hE (e91 hE) rfl rfl ⟨(Nat.le_of_ble_eq_true rfl), (Nat.le_of_ble_eq_true rfl)⟩) [0, 1] rfl (by decide) rfl hl.1 rfl (lv_room (Nat.le_of_ble_eq_true rfl)) dX3_measureOne_120 ⟨(Nat.le_of_ble_eq_true rfl), (Nat.le_of_ble_eq_true rfl)⟩) hP hD hS hA [0, 1] [] rfl rfl (by decide) (by decide) (fun u3 H locs hP hD hS => ?_)
  have hP : va_P g.1 vwCl [(q4, .inl (g.2 0, 40, .inl f5)), (q1, .inr (5, [w2, .ref q4]))] H := hP
  have hD : va_D A [(q4, .inl (g.2 0, 40, .inl f5)), (q1, .inr (5, [w2, .ref q4]))] := hD
  refine lv_aload_n hx hb dX3_measureOne_123 rfl (lv_at hl 6 rfl) ?_
  refine lv_iload_n hx hb dX3_measureOne_124 rfl (lv_at hl 7 rfl) ?_
  refine lv_iconst (v := 3) hx hb dX3_measureOne_125 (by decide) ?_
  refine lv_iload hx hb dX3_measureOne_126 (lv_at hl 3 rfl) ?_
  refine g_v (wr := []) (rV (rest := []) hx hb hml hown hE hP hD 1 rfl rfl (c185_X3_putFigure l g q1 q4 w2 f5 (hf9) H.size) (kV_X3_putFigure hE (e91 hE) rfl rfl ⟨(Nat.le_of_ble_eq_true rfl), (Nat.le_of_ble_eq_true rfl)⟩) [0, 1] rfl (by decide) rfl hl.1 rfl (lv_room (Nat.le_of_ble_eq_true rfl)) dX3_measureOne_128 ⟨(Nat.le_of_ble_eq_true rfl), (Nat.le_of_ble_eq_true rfl)⟩) hP hD hS hA [0, 1] [] rfl rfl (by decide) (by decide) (fun u4 H locs hP hD hS => ?_)
  have hP : va_P g.1 vwCl [(q4, .inl (g.2 0, 40, .inl f5)), (q1, .inr (5, [w2, .ref q4]))] H := hP
  have hD : va_D A [(q4, .inl (g.2 0, 40, .inl f5)), (q1, .inr (5, [w2, .ref q4]))] := hD
  refine lv_aload_n hx hb dX3_measureOne_131 rfl (lv_at hl 6 rfl) ?_
  refine lv_iload_n hx hb dX3_measureOne_132 rfl (lv_at hl 7 rfl) ?_
  refine lv_iconst (v := 4) hx hb dX3_measureOne_133 (by decide) ?_
  refine lv_iload hx hb dX3_measureOne_134 (lv_at hl 2 rfl) ?_
  refine g_v (wr := []) (rV (rest := []) hx hb hml hown hE hP hD 1 rfl rfl (c10_X3_putFigure l g q1 q4 w2 f5 H.size) (kV_X3_putFigure hE (e91 hE) rfl rfl ⟨(Nat.le_of_ble_eq_true rfl), (Nat.le_of_ble_eq_true rfl)⟩) [0, 1] rfl (by decide) rfl hl.1 rfl (lv_room (Nat.le_of_ble_eq_true rfl)) dX3_measureOne_136 ⟨(Nat.le_of_ble_eq_true rfl), (Nat.le_of_ble_eq_true rfl)⟩) hP hD hS hA [0, 1] [] rfl rfl (by decide) (by decide) (fun u5 H locs hP hD hS => ?_)
  have hP : va_P g.1 vwCl [(q4, .inl (g.2 0, 40, .inl (upd f5 39 1))), (q1, .inr (5, [w2, .ref q4]))] H := hP
  have hD : va_D A [(q4, .inl (g.2 0, 40, .inl (upd f5 39 1))), (q1, .inr (5, [w2, .ref q4]))] := hD
  exact x_vret hx hb hr hlocks hP hD hS hAe hsz (Nat.le_of_ble_eq_true rfl) (Nat.le_of_ble_eq_true rfl) (fun _ => 0) [0, 1] (by decide) rfl dX3_measureOne_139

set_option maxHeartbeats 4000000 in
set_option maxRecDepth 100000 in
theorem c187_X3_figure (l : Launch) (g : gG) (q1 q4 : Nat) (w2 : Value) (f5 : Nat → Int32) (hf6 : f5 36 = 0) (sz : Nat) : Met l yX3_figure [Cond.code yX3_figure cX3_figure 4 (some .int)] ({ frames := 0, cells := 0, slots := 0, locals := 0 } : Room) (va_Pc [.ref q1, .int 7, .int 1] (PX g sz [(q4, .inl (g.2 0, 40, .inl f5)), (q1, .inr (5, [w2, .ref q4]))])) (QI g [(q4, .inl (g.2 0, 40, .inl f5)), (q1, .inr (5, [w2, .ref q4]))] sz 0 (fun _ => [(q4, .inl (g.2 0, 40, .inl f5)), (q1, .inr (5, [w2, .ref q4]))])) 0 0 (va_A [(q4, .inl (g.2 0, 40, .inl f5)), (q1, .inr (5, [w2, .ref q4]))] sz) := by
  refine ofN (by decide) (Nat.le_of_ble_eq_true rfl) rfl ?_
  intro p e s m args below meth c A ls hAe hsz hx hb hml hr hlocks hin hown hE hP hD hA hS hl
  have hown : s.vm.findClass RX3 = some m.cls := hown
  refine lv_iload_n hx hb dX3_figure_0 rfl (lv_at hl 1 rfl) ?_
  refine lv_iconst (v := 5) hx hb dX3_figure_1 (by decide) ?_
  refine x_imul (v := 35) hx hb dX3_figure_2 (by decide) ?_
  refine lv_iload_n hx hb dX3_figure_3 rfl (lv_at hl 2 rfl) ?_
  refine x_iadd (v := 36) hx hb dX3_figure_4 (by decide) ?_
  refine lv_istore_n (lv' := [(3, .int 36), (0, .ref q1), (1, .int 7), (2, .int 1)]) hx hb dX3_figure_5 rfl hl (by decide) rfl (fun ls hl => ?_)
  refine lv_iload_n hx hb dX3_figure_6 rfl (lv_at hl 0 rfl) ?_
  refine lv_if_lt (tgt := 28) hx hb dX3_figure_7 (by decide) (fun h => absurd h (by decide)) (fun _ => ?_)
  refine lv_iload_n hx hb dX3_figure_10 rfl (lv_at hl 0 rfl) ?_
  refine lv_aload_n hx hb dX3_figure_11 rfl (lv_at hl 1 rfl) ?_
  refine gf_RX3_15 hx hb hown hE hP 1 rfl rfl dX3_figure_12 ?_
  refine x_aleni (v := 40) hx hb hE hP 0 rfl rfl dX3_figure_15 ?_
  refine lv_icmp_ge (tgt := 28) hx hb dX3_figure_16 (by decide) (fun h => absurd h (by decide)) (fun _ => ?_)
  refine lv_aload_n hx hb dX3_figure_19 rfl (lv_at hl 1 rfl) ?_
  refine gf_RX3_15 hx hb hown hE hP 1 rfl rfl dX3_figure_20 ?_
  refine lv_iload_n hx hb dX3_figure_23 rfl (lv_at hl 0 rfl) ?_
  refine x_iald (v := 0) hx hb hE hP 0 rfl 36 (x_in (by decide)) (by decide) hf6 dX3_figure_24 ?_
  refine lv_goto (tgt := 29) hx hb dX3_figure_25 (by decide) ?_
  exact x_zret hx hb hr rfl rfl hlocks hP hD hS hAe hsz (Nat.le_of_ble_eq_true rfl) (Nat.le_of_ble_eq_true rfl) (fun _ => 0) [0, 1] (by decide) rfl dX3_figure_29

set_option maxHeartbeats 4000000 in
set_option maxRecDepth 100000 in
theorem c188_X3_measure (l : Launch) (g : gG) (q1 q4 q7 : Nat) (x10 : Int32) (f5 : Nat → Int32) (f8 : Nat → Int32) (hf6 : f5 0 = 1) (hf9 : f8 2 = x10) (hf11 : f8 0 = 0) (hf12 : f5 3 = 0) (hf14 : f5 5 = 0) (hf15 : f5 6 = 0) (hf16 : f5 7 = 0) (hf17 : f5 8 = 0) (hf18 : f5 10 = 0) (hf19 : f5 11 = 0) (hf20 : f5 12 = 0) (hf21 : f5 13 = 0) (hf22 : f5 15 = 0) (hf23 : f5 16 = 0) (hf24 : f5 17 = 0) (hf25 : f5 18 = 0) (hf26 : f5 20 = 0) (hf27 : f5 21 = 0) (hf28 : f5 22 = 0) (hf29 : f5 23 = 0) (hf30 : f5 25 = 0) (hf31 : f5 26 = 0) (hf32 : f5 27 = 0) (hf33 : f5 28 = 0) (hf34 : f5 30 = 0) (hf35 : f5 31 = 0) (hf36 : f5 32 = 0) (hf37 : f5 33 = 0) (hf38 : f5 35 = 0) (hf39 : f5 36 = 0) (hf40 : f5 37 = 0) (hf41 : f5 38 = 0) (h13 : x10 ≤ 20000) (sz : Nat) : Met l yX3_measure [Cond.code yX3_measure cX3_measure 2 (some .boolean)] ({ frames := 3, cells := 0, slots := 0, locals := 75 } : Room) (va_Pc [.ref q1] (PX g sz [(q7, .inl (g.2 0, 384, .inl f8)), (q4, .inl (g.2 0, 40, .inl f5)), (q1, .inr (5, [.ref q7, .ref q4]))])) (QI g [(q7, .inl (g.2 0, 384, .inl f8)), (q4, .inl (g.2 0, 40, .inl f5)), (q1, .inr (5, [.ref q7, .ref q4]))] sz 1 (fun _ => [(q7, .inl (g.2 0, 384, .inl f8)), (q4, .inl (g.2 0, 40, .inl (upd (upd (upd (upd (upd (upd (upd (upd (upd (upd f5 1 x10) 2 1) 4 1) 9 1) 14 1) 19 1) 24 1) 29 1) 34 1) 39 1))), (q1, .inr (5, [.ref q7, .ref q4]))])) 0 0 (va_A [(q7, .inl (g.2 0, 384, .inl f8)), (q4, .inl (g.2 0, 40, .inl f5)), (q1, .inr (5, [.ref q7, .ref q4]))] sz) := by
  refine ofN (by decide) (Nat.le_of_ble_eq_true rfl) rfl ?_
  intro p e s m args below meth c A ls hAe hsz hx hb hml hr hlocks hin hown hE hP hD hA hS hl
  have hown : s.vm.findClass RX3 = some m.cls := hown
  refine lv_iconst (v := 0) hx hb dX3_measure_0 (by decide) ?_
  refine lv_istore_n (lv' := [(1, .int 0), (0, .ref q1)]) hx hb dX3_measure_1 rfl hl (by decide) rfl (fun ls hl => ?_)
  refine lv_iload_n hx hb dX3_measure_2 rfl (lv_at hl 0 rfl) ?_
  refine lv_bipush (v := 8) hx hb dX3_measure_3 (by decide) ?_
  refine lv_icmp_ge (tgt := 33) hx hb dX3_measure_5 (by decide) (fun h => absurd h (by decide)) (fun _ => ?_)
  refine lv_aload_n hx hb dX3_measure_8 rfl (lv_at hl 1 rfl) ?_
  refine lv_iload_n hx hb dX3_measure_9 rfl (lv_at hl 0 rfl) ?_
  refine g_v (wr := []) (rV (rest := []) hx hb hml hown hE hP hD 2 rfl rfl (c144_X3_measureOne l g q1 q4 q7 x10 f5 f8 (hf6) (hf9) (hf11) (hf12) s.heap.size) (kV_X3_measureOne hE (e698 hE) rfl rfl ⟨(Nat.le_of_ble_eq_true rfl), (Nat.le_of_ble_eq_true rfl)⟩) [0, 1, 2] rfl (by decide) rfl hl.1 rfl (lv_room (Nat.le_of_ble_eq_true rfl)) dX3_measure_10 ⟨(Nat.le_of_ble_eq_true rfl), (Nat.le_of_ble_eq_true rfl)⟩) hP hD hS hA [0, 1, 2] [] rfl rfl (by decide) (by decide) (fun u1 H locs hP hD hS => ?_)
  have hP : va_P g.1 vwCl [(q7, .inl (g.2 0, 384, .inl f8)), (q4, .inl (g.2 0, 40, .inl (upd (upd (upd f5 1 x10) 2 1) 4 1))), (q1, .inr (5, [.ref q7, .ref q4]))] H := hP
  have hD : va_D A [(q7, .inl (g.2 0, 384, .inl f8)), (q4, .inl (g.2 0, 40, .inl (upd (upd (upd f5 1 x10) 2 1) 4 1))), (q1, .inr (5, [.ref q7, .ref q4]))] := hD
  refine lv_aload_n hx hb dX3_measure_13 rfl (lv_at hl 1 rfl) ?_
  refine lv_iload_n hx hb dX3_measure_14 rfl (lv_at hl 0 rfl) ?_
  refine lv_iconst (v := 1) hx hb dX3_measure_15 (by decide) ?_
  refine g_i (wr := [(q7, .inl (g.2 0, 384, .inl f8))]) (rV (rest := []) hx hb hml hown hE hP hD 2 rfl rfl (c145_X3_figure l g q1 q4 x10 (.ref q7) (upd (upd (upd f5 1 x10) 2 1) 4 1) (((pk_un (by decide)).trans ((pk_un (by decide)).trans pk_us))) H.size) (kV_X3_figure hE (e343 hE) rfl rfl ⟨(Nat.le_of_ble_eq_true rfl), (Nat.le_of_ble_eq_true rfl)⟩) [1, 2] rfl (by decide) rfl hl.1 rfl (lv_room (Nat.le_of_ble_eq_true rfl)) dX3_measure_16 ⟨(Nat.le_of_ble_eq_true rfl), (Nat.le_of_ble_eq_true rfl)⟩) hP hD hS hA [1, 2] [0] rfl rfl (by decide) (by decide) (fun u2 H locs hP hD hS => ?_)
  have hP : va_P g.1 vwCl [(q7, .inl (g.2 0, 384, .inl f8)), (q4, .inl (g.2 0, 40, .inl (upd (upd (upd f5 1 x10) 2 1) 4 1))), (q1, .inr (5, [.ref q7, .ref q4]))] H := hP
  have hD : va_D A [(q7, .inl (g.2 0, 384, .inl f8)), (q4, .inl (g.2 0, 40, .inl (upd (upd (upd f5 1 x10) 2 1) 4 1))), (q1, .inr (5, [.ref q7, .ref q4]))] := hD
  refine lv_sipush (v := 20000) hx hb dX3_measure_19 (by decide) ?_
  refine lv_icmp_le (tgt := 27) hx hb dX3_measure_22 (by decide) (fun _ => ?_) (fun h => absurd h13 h)
  refine lv_iinc (v := 1) (lv' := [(1, .int 1), (0, .ref q1)]) hx hb dX3_measure_27 hl (k := 0) rfl (by decide) (by decide) rfl (fun ls hl => ?_)
  refine lv_goto (tgt := 2) hx hb dX3_measure_30 (by decide) ?_
  refine lv_iload_n hx hb dX3_measure_2 rfl (lv_at hl 0 rfl) ?_
  refine lv_bipush (v := 8) hx hb dX3_measure_3 (by decide) ?_
  refine lv_icmp_ge (tgt := 33) hx hb dX3_measure_5 (by decide) (fun h => absurd h (by decide)) (fun _ => ?_)
  refine lv_aload_n hx hb dX3_measure_8 rfl (lv_at hl 1 rfl) ?_
  refine lv_iload_n hx hb dX3_measure_9 rfl (lv_at hl 0 rfl) ?_
  refine g_v (wr := [(q7, .inl (g.2 0, 384, .inl f8))]) (rV (rest := []) hx hb hml hown hE hP hD 2 rfl rfl (c150_X3_measureOne l g q1 q4 (.ref q7) (upd (upd (upd f5 1 x10) 2 1) 4 1) (((pk_un (by decide)).trans ((pk_un (by decide)).trans ((pk_un (by decide)).trans hf14)))) (((pk_un (by decide)).trans ((pk_un (by decide)).trans ((pk_un (by decide)).trans hf15)))) (((pk_un (by decide)).trans ((pk_un (by decide)).trans ((pk_un (by decide)).trans hf16)))) (((pk_un (by decide)).trans ((pk_un (by decide)).trans ((pk_un (by decide)).trans hf17)))) H.size) (kV_X3_measureOne hE (e698 hE) rfl rfl ⟨(Nat.le_of_ble_eq_true rfl), (Nat.le_of_ble_eq_true rfl)⟩) [1, 2] rfl (by decide) rfl hl.1 rfl (lv_room (Nat.le_of_ble_eq_true rfl)) dX3_measure_10 ⟨(Nat.le_of_ble_eq_true rfl), (Nat.le_of_ble_eq_true rfl)⟩) hP hD hS hA [1, 2] [0] rfl rfl (by decide) (by decide) (fun u3 H locs hP hD hS => ?_)
  have hP : va_P g.1 vwCl [(q7, .inl (g.2 0, 384, .inl f8)), (q4, .inl (g.2 0, 40, .inl (upd (upd (upd (upd f5 1 x10) 2 1) 4 1) 9 1))), (q1, .inr (5, [.ref q7, .ref q4]))] H := hP
  have hD : va_D A [(q7, .inl (g.2 0, 384, .inl f8)), (q4, .inl (g.2 0, 40, .inl (upd (upd (upd (upd f5 1 x10) 2 1) 4 1) 9 1))), (q1, .inr (5, [.ref q7, .ref q4]))] := hD
  refine lv_aload_n hx hb dX3_measure_13 rfl (lv_at hl 1 rfl) ?_
  refine lv_iload_n hx hb dX3_measure_14 rfl (lv_at hl 0 rfl) ?_
  refine lv_iconst (v := 1) hx hb dX3_measure_15 (by decide) ?_
  refine g_i (wr := [(q7, .inl (g.2 0, 384, .inl f8))]) (rV (rest := []) hx hb hml hown hE hP hD 2 rfl rfl (c151_X3_figure l g q1 q4 (.ref q7) (upd (upd (upd (upd f5 1 x10) 2 1) 4 1) 9 1) (((pk_un (by decide)).trans ((pk_un (by decide)).trans ((pk_un (by decide)).trans ((pk_un (by decide)).trans hf15))))) H.size) (kV_X3_figure hE (e343 hE) rfl rfl ⟨(Nat.le_of_ble_eq_true rfl), (Nat.le_of_ble_eq_true rfl)⟩) [1, 2] rfl (by decide) rfl hl.1 rfl (lv_room (Nat.le_of_ble_eq_true rfl)) dX3_measure_16 ⟨(Nat.le_of_ble_eq_true rfl), (Nat.le_of_ble_eq_true rfl)⟩) hP hD hS hA [1, 2] [0] rfl rfl (by decide) (by decide) (fun u4 H locs hP hD hS => ?_)
  have hP : va_P g.1 vwCl [(q7, .inl (g.2 0, 384, .inl f8)), (q4, .inl (g.2 0, 40, .inl (upd (upd (upd (upd f5 1 x10) 2 1) 4 1) 9 1))), (q1, .inr (5, [.ref q7, .ref q4]))] H := hP
  have hD : va_D A [(q7, .inl (g.2 0, 384, .inl f8)), (q4, .inl (g.2 0, 40, .inl (upd (upd (upd (upd f5 1 x10) 2 1) 4 1) 9 1))), (q1, .inr (5, [.ref q7, .ref q4]))] := hD
  refine lv_sipush (v := 20000) hx hb dX3_measure_19 (by decide) ?_
  refine lv_icmp_le (tgt := 27) hx hb dX3_measure_22 (by decide) (fun _ => ?_) (fun h => absurd (by decide) h)
  refine lv_iinc (v := 2) (lv' := [(1, .int 2), (0, .ref q1)]) hx hb dX3_measure_27 hl (k := 0) rfl (by decide) (by decide) rfl (fun ls hl => ?_)
  refine lv_goto (tgt := 2) hx hb dX3_measure_30 (by decide) ?_
  refine lv_iload_n hx hb dX3_measure_2 rfl (lv_at hl 0 rfl) ?_
  refine lv_bipush (v := 8) hx hb dX3_measure_3 (by decide) ?_
  refine lv_icmp_ge (tgt := 33) hx hb dX3_measure_5 (by decide) (fun h => absurd h (by decide)) (fun _ => ?_)
  refine lv_aload_n hx hb dX3_measure_8 rfl (lv_at hl 1 rfl) ?_
  refine lv_iload_n hx hb dX3_measure_9 rfl (lv_at hl 0 rfl) ?_
  refine g_v (wr := [(q7, .inl (g.2 0, 384, .inl f8))]) (rV (rest := []) hx hb hml hown hE hP hD 2 rfl rfl (c156_X3_measureOne l g q1 q4 (.ref q7) (upd (upd (upd (upd f5 1 x10) 2 1) 4 1) 9 1) (((pk_un (by decide)).trans ((pk_un (by decide)).trans ((pk_un (by decide)).trans ((pk_un (by decide)).trans hf18))))) (((pk_un (by decide)).trans ((pk_un (by decide)).trans ((pk_un (by decide)).trans ((pk_un (by decide)).trans hf19))))) (((pk_un (by decide)).trans ((pk_un (by decide)).trans ((pk_un (by decide)).trans ((pk_un (by decide)).trans hf20))))) (((pk_un (by decide)).trans ((pk_un (by decide)).trans ((pk_un (by decide)).trans ((pk_un (by decide)).trans hf21))))) H.size) (kV_X3_measureOne hE (e698 hE) rfl rfl ⟨(Nat.le_of_ble_eq_true rfl), (Nat.le_of_ble_eq_true rfl)⟩) [1, 2] rfl (by decide) rfl hl.1 rfl (lv_room (Nat.le_of_ble_eq_true rfl)) dX3_measure_10 ⟨(Nat.le_of_ble_eq_true rfl), (Nat.le_of_ble_eq_true rfl)⟩) hP hD hS hA [1, 2] [0] rfl rfl (by decide) (by decide) (fun u5 H locs hP hD hS => ?_)
  have hP : va_P g.1 vwCl [(q7, .inl (g.2 0, 384, .inl f8)), (q4, .inl (g.2 0, 40, .inl (upd (upd (upd (upd (upd f5 1 x10) 2 1) 4 1) 9 1) 14 1))), (q1, .inr (5, [.ref q7, .ref q4]))] H := hP
  have hD : va_D A [(q7, .inl (g.2 0, 384, .inl f8)), (q4, .inl (g.2 0, 40, .inl (upd (upd (upd (upd (upd f5 1 x10) 2 1) 4 1) 9 1) 14 1))), (q1, .inr (5, [.ref q7, .ref q4]))] := hD
  refine lv_aload_n hx hb dX3_measure_13 rfl (lv_at hl 1 rfl) ?_
  refine lv_iload_n hx hb dX3_measure_14 rfl (lv_at hl 0 rfl) ?_
  refine lv_iconst (v := 1) hx hb dX3_measure_15 (by decide) ?_
  refine g_i (wr := [(q7, .inl (g.2 0, 384, .inl f8))]) (rV (rest := []) hx hb hml hown hE hP hD 2 rfl rfl (c157_X3_figure l g q1 q4 (.ref q7) (upd (upd (upd (upd (upd f5 1 x10) 2 1) 4 1) 9 1) 14 1) (((pk_un (by decide)).trans ((pk_un (by decide)).trans ((pk_un (by decide)).trans ((pk_un (by decide)).trans ((pk_un (by decide)).trans hf19)))))) H.size) (kV_X3_figure hE (e343 hE) rfl rfl ⟨(Nat.le_of_ble_eq_true rfl), (Nat.le_of_ble_eq_true rfl)⟩) [1, 2] rfl (by decide) rfl hl.1 rfl (lv_room (Nat.le_of_ble_eq_true rfl)) dX3_measure_16 ⟨(Nat.le_of_ble_eq_true rfl), (Nat.le_of_ble_eq_true rfl)⟩) hP hD hS hA [1, 2] [0] rfl rfl (by decide) (by decide) (fun u6 H locs hP hD hS => ?_)
  have hP : va_P g.1 vwCl [(q7, .inl (g.2 0, 384, .inl f8)), (q4, .inl (g.2 0, 40, .inl (upd (upd (upd (upd (upd f5 1 x10) 2 1) 4 1) 9 1) 14 1))), (q1, .inr (5, [.ref q7, .ref q4]))] H := hP
  have hD : va_D A [(q7, .inl (g.2 0, 384, .inl f8)), (q4, .inl (g.2 0, 40, .inl (upd (upd (upd (upd (upd f5 1 x10) 2 1) 4 1) 9 1) 14 1))), (q1, .inr (5, [.ref q7, .ref q4]))] := hD
  refine lv_sipush (v := 20000) hx hb dX3_measure_19 (by decide) ?_
  refine lv_icmp_le (tgt := 27) hx hb dX3_measure_22 (by decide) (fun _ => ?_) (fun h => absurd (by decide) h)
  refine lv_iinc (v := 3) (lv' := [(1, .int 3), (0, .ref q1)]) hx hb dX3_measure_27 hl (k := 0) rfl (by decide) (by decide) rfl (fun ls hl => ?_)
  refine lv_goto (tgt := 2) hx hb dX3_measure_30 (by decide) ?_
  refine lv_iload_n hx hb dX3_measure_2 rfl (lv_at hl 0 rfl) ?_
  refine lv_bipush (v := 8) hx hb dX3_measure_3 (by decide) ?_
  refine lv_icmp_ge (tgt := 33) hx hb dX3_measure_5 (by decide) (fun h => absurd h (by decide)) (fun _ => ?_)
  refine lv_aload_n hx hb dX3_measure_8 rfl (lv_at hl 1 rfl) ?_
  refine lv_iload_n hx hb dX3_measure_9 rfl (lv_at hl 0 rfl) ?_
  refine g_v (wr := [(q7, .inl (g.2 0, 384, .inl f8))]) (rV (rest := []) hx hb hml hown hE hP hD 2 rfl rfl (c162_X3_measureOne l g q1 q4 (.ref q7) (upd (upd (upd (upd (upd f5 1 x10) 2 1) 4 1) 9 1) 14 1) (((pk_un (by decide)).trans ((pk_un (by decide)).trans ((pk_un (by decide)).trans ((pk_un (by decide)).trans ((pk_un (by decide)).trans hf22)))))) (((pk_un (by decide)).trans ((pk_un (by decide)).trans ((pk_un (by decide)).trans ((pk_un (by decide)).trans ((pk_un (by decide)).trans hf23)))))) (((pk_un (by decide)).trans ((pk_un (by decide)).trans ((pk_un (by decide)).trans ((pk_un (by decide)).trans ((pk_un (by decide)).trans hf24)))))) (((pk_un (by decide)).trans ((pk_un (by decide)).trans ((pk_un (by decide)).trans ((pk_un (by decide)).trans ((pk_un (by decide)).trans hf25)))))) H.size) (kV_X3_measureOne hE (e698 hE) rfl rfl ⟨(Nat.le_of_ble_eq_true rfl), (Nat.le_of_ble_eq_true rfl)⟩) [1, 2] rfl (by decide) rfl hl.1 rfl (lv_room (Nat.le_of_ble_eq_true rfl)) dX3_measure_10 ⟨(Nat.le_of_ble_eq_true rfl), (Nat.le_of_ble_eq_true rfl)⟩) hP hD hS hA [1, 2] [0] rfl rfl (by decide) (by decide) (fun u7 H locs hP hD hS => ?_)
  have hP : va_P g.1 vwCl [(q7, .inl (g.2 0, 384, .inl f8)), (q4, .inl (g.2 0, 40, .inl (upd (upd (upd (upd (upd (upd f5 1 x10) 2 1) 4 1) 9 1) 14 1) 19 1))), (q1, .inr (5, [.ref q7, .ref q4]))] H := hP
  have hD : va_D A [(q7, .inl (g.2 0, 384, .inl f8)), (q4, .inl (g.2 0, 40, .inl (upd (upd (upd (upd (upd (upd f5 1 x10) 2 1) 4 1) 9 1) 14 1) 19 1))), (q1, .inr (5, [.ref q7, .ref q4]))] := hD
  refine lv_aload_n hx hb dX3_measure_13 rfl (lv_at hl 1 rfl) ?_
  refine lv_iload_n hx hb dX3_measure_14 rfl (lv_at hl 0 rfl) ?_
  refine lv_iconst (v := 1) hx hb dX3_measure_15 (by decide) ?_
  refine g_i (wr := [(q7, .inl (g.2 0, 384, .inl f8))]) (rV (rest := []) hx hb hml hown hE hP hD 2 rfl rfl (c163_X3_figure l g q1 q4 (.ref q7) (upd (upd (upd (upd (upd (upd f5 1 x10) 2 1) 4 1) 9 1) 14 1) 19 1) (((pk_un (by decide)).trans ((pk_un (by decide)).trans ((pk_un (by decide)).trans ((pk_un (by decide)).trans ((pk_un (by decide)).trans ((pk_un (by decide)).trans hf23))))))) H.size) (kV_X3_figure hE (e343 hE) rfl rfl ⟨(Nat.le_of_ble_eq_true rfl), (Nat.le_of_ble_eq_true rfl)⟩) [1, 2] rfl (by decide) rfl hl.1 rfl (lv_room (Nat.le_of_ble_eq_true rfl)) dX3_measure_16 ⟨(Nat.le_of_ble_eq_true rfl), (Nat.le_of_ble_eq_true rfl)⟩) hP hD hS hA [1, 2] [0] rfl rfl (by decide) (by decide) (fun u8 H locs hP hD hS => ?_)
  have hP : va_P g.1 vwCl [(q7, .inl (g.2 0, 384, .inl f8)), (q4, .inl (g.2 0, 40, .inl (upd (upd (upd (upd (upd (upd f5 1 x10) 2 1) 4 1) 9 1) 14 1) 19 1))), (q1, .inr (5, [.ref q7, .ref q4]))] H := hP
  have hD : va_D A [(q7, .inl (g.2 0, 384, .inl f8)), (q4, .inl (g.2 0, 40, .inl (upd (upd (upd (upd (upd (upd f5 1 x10) 2 1) 4 1) 9 1) 14 1) 19 1))), (q1, .inr (5, [.ref q7, .ref q4]))] := hD
  refine lv_sipush (v := 20000) hx hb dX3_measure_19 (by decide) ?_
  refine lv_icmp_le (tgt := 27) hx hb dX3_measure_22 (by decide) (fun _ => ?_) (fun h => absurd (by decide) h)
  refine lv_iinc (v := 4) (lv' := [(1, .int 4), (0, .ref q1)]) hx hb dX3_measure_27 hl (k := 0) rfl (by decide) (by decide) rfl (fun ls hl => ?_)
  refine lv_goto (tgt := 2) hx hb dX3_measure_30 (by decide) ?_
  refine lv_iload_n hx hb dX3_measure_2 rfl (lv_at hl 0 rfl) ?_
  refine lv_bipush (v := 8) hx hb dX3_measure_3 (by decide) ?_
  refine lv_icmp_ge (tgt := 33) hx hb dX3_measure_5 (by decide) (fun h => absurd h (by decide)) (fun _ => ?_)
  refine lv_aload_n hx hb dX3_measure_8 rfl (lv_at hl 1 rfl) ?_
  refine lv_iload_n hx hb dX3_measure_9 rfl (lv_at hl 0 rfl) ?_
  refine g_v (wr := [(q7, .inl (g.2 0, 384, .inl f8))]) (rV (rest := []) hx hb hml hown hE hP hD 2 rfl rfl (c168_X3_measureOne l g q1 q4 (.ref q7) (upd (upd (upd (upd (upd (upd f5 1 x10) 2 1) 4 1) 9 1) 14 1) 19 1) (((pk_un (by decide)).trans ((pk_un (by decide)).trans ((pk_un (by decide)).trans ((pk_un (by decide)).trans ((pk_un (by decide)).trans ((pk_un (by decide)).trans hf26))))))) (((pk_un (by decide)).trans ((pk_un (by decide)).trans ((pk_un (by decide)).trans ((pk_un (by decide)).trans ((pk_un (by decide)).trans ((pk_un (by decide)).trans hf27))))))) (((pk_un (by decide)).trans ((pk_un (by decide)).trans ((pk_un (by decide)).trans ((pk_un (by decide)).trans ((pk_un (by decide)).trans ((pk_un (by decide)).trans hf28))))))) (((pk_un (by decide)).trans ((pk_un (by decide)).trans ((pk_un (by decide)).trans ((pk_un (by decide)).trans ((pk_un (by decide)).trans ((pk_un (by decide)).trans hf29))))))) H.size) (kV_X3_measureOne hE (e698 hE) rfl rfl ⟨(Nat.le_of_ble_eq_true rfl), (Nat.le_of_ble_eq_true rfl)⟩) [1, 2] rfl (by decide) rfl hl.1 rfl (lv_room (Nat.le_of_ble_eq_true rfl)) dX3_measure_10 ⟨(Nat.le_of_ble_eq_true rfl), (Nat.le_of_ble_eq_true rfl)⟩) hP hD hS hA [1, 2] [0] rfl rfl (by decide) (by decide) (fun u9 H locs hP hD hS => ?_)
  have hP : va_P g.1 vwCl [(q7, .inl (g.2 0, 384, .inl f8)), (q4, .inl (g.2 0, 40, .inl (upd (upd (upd (upd (upd (upd (upd f5 1 x10) 2 1) 4 1) 9 1) 14 1) 19 1) 24 1))), (q1, .inr (5, [.ref q7, .ref q4]))] H := hP
  have hD : va_D A [(q7, .inl (g.2 0, 384, .inl f8)), (q4, .inl (g.2 0, 40, .inl (upd (upd (upd (upd (upd (upd (upd f5 1 x10) 2 1) 4 1) 9 1) 14 1) 19 1) 24 1))), (q1, .inr (5, [.ref q7, .ref q4]))] := hD
  refine lv_aload_n hx hb dX3_measure_13 rfl (lv_at hl 1 rfl) ?_
  refine lv_iload_n hx hb dX3_measure_14 rfl (lv_at hl 0 rfl) ?_
  refine lv_iconst (v := 1) hx hb dX3_measure_15 (by decide) ?_
  refine g_i (wr := [(q7, .inl (g.2 0, 384, .inl f8))]) (rV (rest := []) hx hb hml hown hE hP hD 2 rfl rfl (c169_X3_figure l g q1 q4 (.ref q7) (upd (upd (upd (upd (upd (upd (upd f5 1 x10) 2 1) 4 1) 9 1) 14 1) 19 1) 24 1) (((pk_un (by decide)).trans ((pk_un (by decide)).trans ((pk_un (by decide)).trans ((pk_un (by decide)).trans ((pk_un (by decide)).trans ((pk_un (by decide)).trans ((pk_un (by decide)).trans hf27)))))))) H.size) (kV_X3_figure hE (e343 hE) rfl rfl ⟨(Nat.le_of_ble_eq_true rfl), (Nat.le_of_ble_eq_true rfl)⟩) [1, 2] rfl (by decide) rfl hl.1 rfl (lv_room (Nat.le_of_ble_eq_true rfl)) dX3_measure_16 ⟨(Nat.le_of_ble_eq_true rfl), (Nat.le_of_ble_eq_true rfl)⟩) hP hD hS hA [1, 2] [0] rfl rfl (by decide) (by decide) (fun u10 H locs hP hD hS => ?_)
  have hP : va_P g.1 vwCl [(q7, .inl (g.2 0, 384, .inl f8)), (q4, .inl (g.2 0, 40, .inl (upd (upd (upd (upd (upd (upd (upd f5 1 x10) 2 1) 4 1) 9 1) 14 1) 19 1) 24 1))), (q1, .inr (5, [.ref q7, .ref q4]))] H := hP
  have hD : va_D A [(q7, .inl (g.2 0, 384, .inl f8)), (q4, .inl (g.2 0, 40, .inl (upd (upd (upd (upd (upd (upd (upd f5 1 x10) 2 1) 4 1) 9 1) 14 1) 19 1) 24 1))), (q1, .inr (5, [.ref q7, .ref q4]))] := hD
  refine lv_sipush (v := 20000) hx hb dX3_measure_19 (by decide) ?_
  refine lv_icmp_le (tgt := 27) hx hb dX3_measure_22 (by decide) (fun _ => ?_) (fun h => absurd (by decide) h)
  refine lv_iinc (v := 5) (lv' := [(1, .int 5), (0, .ref q1)]) hx hb dX3_measure_27 hl (k := 0) rfl (by decide) (by decide) rfl (fun ls hl => ?_)
  refine lv_goto (tgt := 2) hx hb dX3_measure_30 (by decide) ?_
  refine lv_iload_n hx hb dX3_measure_2 rfl (lv_at hl 0 rfl) ?_
  refine lv_bipush (v := 8) hx hb dX3_measure_3 (by decide) ?_
  refine lv_icmp_ge (tgt := 33) hx hb dX3_measure_5 (by decide) (fun h => absurd h (by decide)) (fun _ => ?_)
  refine lv_aload_n hx hb dX3_measure_8 rfl (lv_at hl 1 rfl) ?_
  refine lv_iload_n hx hb dX3_measure_9 rfl (lv_at hl 0 rfl) ?_
  refine g_v (wr := [(q7, .inl (g.2 0, 384, .inl f8))]) (rV (rest := []) hx hb hml hown hE hP hD 2 rfl rfl (c174_X3_measureOne l g q1 q4 (.ref q7) (upd (upd (upd (upd (upd (upd (upd f5 1 x10) 2 1) 4 1) 9 1) 14 1) 19 1) 24 1) (((pk_un (by decide)).trans ((pk_un (by decide)).trans ((pk_un (by decide)).trans ((pk_un (by decide)).trans ((pk_un (by decide)).trans ((pk_un (by decide)).trans ((pk_un (by decide)).trans hf30)))))))) (((pk_un (by decide)).trans ((pk_un (by decide)).trans ((pk_un (by decide)).trans ((pk_un (by decide)).trans ((pk_un (by decide)).trans ((pk_un (by decide)).trans ((pk_un (by decide)).trans hf31)))))))) (((pk_un (by decide)).trans ((pk_un (by decide)).trans ((pk_un (by decide)).trans ((pk_un (by decide)).trans ((pk_un (by decide)).trans ((pk_un (by decide)).trans ((pk_un (by decide)).trans hf32)))))))) (((pk_un (by decide)).trans ((pk_un (by decide)).trans ((pk_un (by decide)).trans ((pk_un (by decide)).trans ((pk_un (by decide)).trans ((pk_un (by decide)).trans ((pk_un (by decide)).trans hf33)))))))) H.size) (kV_X3_measureOne hE (e698 hE) rfl rfl ⟨(Nat.le_of_ble_eq_true rfl), (Nat.le_of_ble_eq_true rfl)⟩) [1, 2] rfl (by decide) rfl hl.1 rfl (lv_room (Nat.le_of_ble_eq_true rfl)) dX3_measure_10 ⟨(Nat.le_of_ble_eq_true rfl), (Nat.le_of_ble_eq_true rfl)⟩) hP hD hS hA [1, 2] [0] rfl rfl (by decide) (by decide) (fun u11 H locs hP hD hS => ?_)
  have hP : va_P g.1 vwCl [(q7, .inl (g.2 0, 384, .inl f8)), (q4, .inl (g.2 0, 40, .inl (upd (upd (upd (upd (upd (upd (upd (upd f5 1 x10) 2 1) 4 1) 9 1) 14 1) 19 1) 24 1) 29 1))), (q1, .inr (5, [.ref q7, .ref q4]))] H := hP
  have hD : va_D A [(q7, .inl (g.2 0, 384, .inl f8)), (q4, .inl (g.2 0, 40, .inl (upd (upd (upd (upd (upd (upd (upd (upd f5 1 x10) 2 1) 4 1) 9 1) 14 1) 19 1) 24 1) 29 1))), (q1, .inr (5, [.ref q7, .ref q4]))] := hD
  refine lv_aload_n hx hb dX3_measure_13 rfl (lv_at hl 1 rfl) ?_
  refine lv_iload_n hx hb dX3_measure_14 rfl (lv_at hl 0 rfl) ?_
  refine lv_iconst (v := 1) hx hb dX3_measure_15 (by decide) ?_
  refine g_i (wr := [(q7, .inl (g.2 0, 384, .inl f8))]) (rV (rest := []) hx hb hml hown hE hP hD 2 rfl rfl (c175_X3_figure l g q1 q4 (.ref q7) (upd (upd (upd (upd (upd (upd (upd (upd f5 1 x10) 2 1) 4 1) 9 1) 14 1) 19 1) 24 1) 29 1) (((pk_un (by decide)).trans ((pk_un (by decide)).trans ((pk_un (by decide)).trans ((pk_un (by decide)).trans ((pk_un (by decide)).trans ((pk_un (by decide)).trans ((pk_un (by decide)).trans ((pk_un (by decide)).trans hf31))))))))) H.size) (kV_X3_figure hE (e343 hE) rfl rfl ⟨(Nat.le_of_ble_eq_true rfl), (Nat.le_of_ble_eq_true rfl)⟩) [1, 2] rfl (by decide) rfl hl.1 rfl (lv_room (Nat.le_of_ble_eq_true rfl)) dX3_measure_16 ⟨(Nat.le_of_ble_eq_true rfl), (Nat.le_of_ble_eq_true rfl)⟩) hP hD hS hA [1, 2] [0] rfl rfl (by decide) (by decide) (fun u12 H locs hP hD hS => ?_)
  have hP : va_P g.1 vwCl [(q7, .inl (g.2 0, 384, .inl f8)), (q4, .inl (g.2 0, 40, .inl (upd (upd (upd (upd (upd (upd (upd (upd f5 1 x10) 2 1) 4 1) 9 1) 14 1) 19 1) 24 1) 29 1))), (q1, .inr (5, [.ref q7, .ref q4]))] H := hP
  have hD : va_D A [(q7, .inl (g.2 0, 384, .inl f8)), (q4, .inl (g.2 0, 40, .inl (upd (upd (upd (upd (upd (upd (upd (upd f5 1 x10) 2 1) 4 1) 9 1) 14 1) 19 1) 24 1) 29 1))), (q1, .inr (5, [.ref q7, .ref q4]))] := hD
  refine lv_sipush (v := 20000) hx hb dX3_measure_19 (by decide) ?_
  refine lv_icmp_le (tgt := 27) hx hb dX3_measure_22 (by decide) (fun _ => ?_) (fun h => absurd (by decide) h)
  refine lv_iinc (v := 6) (lv' := [(1, .int 6), (0, .ref q1)]) hx hb dX3_measure_27 hl (k := 0) rfl (by decide) (by decide) rfl (fun ls hl => ?_)
  refine lv_goto (tgt := 2) hx hb dX3_measure_30 (by decide) ?_
  refine lv_iload_n hx hb dX3_measure_2 rfl (lv_at hl 0 rfl) ?_
  refine lv_bipush (v := 8) hx hb dX3_measure_3 (by decide) ?_
  refine lv_icmp_ge (tgt := 33) hx hb dX3_measure_5 (by decide) (fun h => absurd h (by decide)) (fun _ => ?_)
  refine lv_aload_n hx hb dX3_measure_8 rfl (lv_at hl 1 rfl) ?_
  refine lv_iload_n hx hb dX3_measure_9 rfl (lv_at hl 0 rfl) ?_
  refine g_v (wr := [(q7, .inl (g.2 0, 384, .inl f8))]) (rV (rest := []) hx hb hml hown hE hP hD 2 rfl rfl (c180_X3_measureOne l g q1 q4 (.ref q7) (upd (upd (upd (upd (upd (upd (upd (upd f5 1 x10) 2 1) 4 1) 9 1) 14 1) 19 1) 24 1) 29 1) (((pk_un (by decide)).trans ((pk_un (by decide)).trans ((pk_un (by decide)).trans ((pk_un (by decide)).trans ((pk_un (by decide)).trans ((pk_un (by decide)).trans ((pk_un (by decide)).trans ((pk_un (by decide)).trans hf34))))))))) (((pk_un (by decide)).trans ((pk_un (by decide)).trans ((pk_un (by decide)).trans ((pk_un (by decide)).trans ((pk_un (by decide)).trans ((pk_un (by decide)).trans ((pk_un (by decide)).trans ((pk_un (by decide)).trans hf35))))))))) (((pk_un (by decide)).trans ((pk_un (by decide)).trans ((pk_un (by decide)).trans ((pk_un (by decide)).trans ((pk_un (by decide)).trans ((pk_un (by decide)).trans ((pk_un (by decide)).trans ((pk_un (by decide)).trans hf36))))))))) (((pk_un (by decide)).trans ((pk_un (by decide)).trans ((pk_un (by decide)).trans ((pk_un (by decide)).trans ((pk_un (by decide)).trans ((pk_un (by decide)).trans ((pk_un (by decide)).trans ((pk_un (by decide)).trans hf37))))))))) H.size) (kV_X3_measureOne hE (e698 hE) rfl rfl ⟨(Nat.le_of_ble_eq_true rfl), (Nat.le_of_ble_eq_true rfl)⟩) [1, 2] rfl (by decide) rfl hl.1 rfl (lv_room (Nat.le_of_ble_eq_true rfl)) dX3_measure_10 ⟨(Nat.le_of_ble_eq_true rfl), (Nat.le_of_ble_eq_true rfl)⟩) hP hD hS hA [1, 2] [0] rfl rfl (by decide) (by decide) (fun u13 H locs hP hD hS => ?_)
  have hP : va_P g.1 vwCl [(q7, .inl (g.2 0, 384, .inl f8)), (q4, .inl (g.2 0, 40, .inl (upd (upd (upd (upd (upd (upd (upd (upd (upd f5 1 x10) 2 1) 4 1) 9 1) 14 1) 19 1) 24 1) 29 1) 34 1))), (q1, .inr (5, [.ref q7, .ref q4]))] H := hP
  have hD : va_D A [(q7, .inl (g.2 0, 384, .inl f8)), (q4, .inl (g.2 0, 40, .inl (upd (upd (upd (upd (upd (upd (upd (upd (upd f5 1 x10) 2 1) 4 1) 9 1) 14 1) 19 1) 24 1) 29 1) 34 1))), (q1, .inr (5, [.ref q7, .ref q4]))] := hD
  refine lv_aload_n hx hb dX3_measure_13 rfl (lv_at hl 1 rfl) ?_
  refine lv_iload_n hx hb dX3_measure_14 rfl (lv_at hl 0 rfl) ?_
  refine lv_iconst (v := 1) hx hb dX3_measure_15 (by decide) ?_
  refine g_i (wr := [(q7, .inl (g.2 0, 384, .inl f8))]) (rV (rest := []) hx hb hml hown hE hP hD 2 rfl rfl (c181_X3_figure l g q1 q4 (.ref q7) (upd (upd (upd (upd (upd (upd (upd (upd (upd f5 1 x10) 2 1) 4 1) 9 1) 14 1) 19 1) 24 1) 29 1) 34 1) (((pk_un (by decide)).trans ((pk_un (by decide)).trans ((pk_un (by decide)).trans ((pk_un (by decide)).trans ((pk_un (by decide)).trans ((pk_un (by decide)).trans ((pk_un (by decide)).trans ((pk_un (by decide)).trans ((pk_un (by decide)).trans hf35)))))))))) H.size) (kV_X3_figure hE (e343 hE) rfl rfl ⟨(Nat.le_of_ble_eq_true rfl), (Nat.le_of_ble_eq_true rfl)⟩) [1, 2] rfl (by decide) rfl hl.1 rfl (lv_room (Nat.le_of_ble_eq_true rfl)) dX3_measure_16 ⟨(Nat.le_of_ble_eq_true rfl), (Nat.le_of_ble_eq_true rfl)⟩) hP hD hS hA [1, 2] [0] rfl rfl (by decide) (by decide) (fun u14 H locs hP hD hS => ?_)
  have hP : va_P g.1 vwCl [(q7, .inl (g.2 0, 384, .inl f8)), (q4, .inl (g.2 0, 40, .inl (upd (upd (upd (upd (upd (upd (upd (upd (upd f5 1 x10) 2 1) 4 1) 9 1) 14 1) 19 1) 24 1) 29 1) 34 1))), (q1, .inr (5, [.ref q7, .ref q4]))] H := hP
  have hD : va_D A [(q7, .inl (g.2 0, 384, .inl f8)), (q4, .inl (g.2 0, 40, .inl (upd (upd (upd (upd (upd (upd (upd (upd (upd f5 1 x10) 2 1) 4 1) 9 1) 14 1) 19 1) 24 1) 29 1) 34 1))), (q1, .inr (5, [.ref q7, .ref q4]))] := hD
  refine lv_sipush (v := 20000) hx hb dX3_measure_19 (by decide) ?_
  refine lv_icmp_le (tgt := 27) hx hb dX3_measure_22 (by decide) (fun _ => ?_) (fun h => absurd (by decide) h)
  refine lv_iinc (v := 7) (lv' := [(1, .int 7), (0, .ref q1)]) hx hb dX3_measure_27 hl (k := 0) rfl (by decide) (by decide) rfl (fun ls hl => ?_)
  refine lv_goto (tgt := 2) hx hb dX3_measure_30 (by decide) ?_
  refine lv_iload_n hx hb dX3_measure_2 rfl (lv_at hl 0 rfl) ?_
  refine lv_bipush (v := 8) hx hb dX3_measure_3 (by decide) ?_
  refine lv_icmp_ge (tgt := 33) hx hb dX3_measure_5 (by decide) (fun h => absurd h (by decide)) (fun _ => ?_)
  refine lv_aload_n hx hb dX3_measure_8 rfl (lv_at hl 1 rfl) ?_
  refine lv_iload_n hx hb dX3_measure_9 rfl (lv_at hl 0 rfl) ?_
  refine g_v (wr := [(q7, .inl (g.2 0, 384, .inl f8))]) (rV (rest := []) hx hb hml hown hE hP hD 2 rfl rfl (c186_X3_measureOne l g q1 q4 (.ref q7) (upd (upd (upd (upd (upd (upd (upd (upd (upd f5 1 x10) 2 1) 4 1) 9 1) 14 1) 19 1) 24 1) 29 1) 34 1) (((pk_un (by decide)).trans ((pk_un (by decide)).trans ((pk_un (by decide)).trans ((pk_un (by decide)).trans ((pk_un (by decide)).trans ((pk_un (by decide)).trans ((pk_un (by decide)).trans ((pk_un (by decide)).trans ((pk_un (by decide)).trans hf38)))))))))) (((pk_un (by decide)).trans ((pk_un (by decide)).trans ((pk_un (by decide)).trans ((pk_un (by decide)).trans ((pk_un (by decide)).trans ((pk_un (by decide)).trans ((pk_un (by decide)).trans ((pk_un (by decide)).trans ((pk_un (by decide)).trans hf39)))))))))) (((pk_un (by decide)).trans ((pk_un (by decide)).trans ((pk_un (by decide)).trans ((pk_un (by decide)).trans ((pk_un (by decide)).trans ((pk_un (by decide)).trans ((pk_un (by decide)).trans ((pk_un (by decide)).trans ((pk_un (by decide)).trans hf40)))))))))) (((pk_un (by decide)).trans ((pk_un (by decide)).trans ((pk_un (by decide)).trans ((pk_un (by decide)).trans ((pk_un (by decide)).trans ((pk_un (by decide)).trans ((pk_un (by decide)).trans ((pk_un (by decide)).trans ((pk_un (by decide)).trans hf41)))))))))) H.size) (kV_X3_measureOne hE (e698 hE) rfl rfl ⟨(Nat.le_of_ble_eq_true rfl), (Nat.le_of_ble_eq_true rfl)⟩) [1, 2] rfl (by decide) rfl hl.1 rfl (lv_room (Nat.le_of_ble_eq_true rfl)) dX3_measure_10 ⟨(Nat.le_of_ble_eq_true rfl), (Nat.le_of_ble_eq_true rfl)⟩) hP hD hS hA [1, 2] [0] rfl rfl (by decide) (by decide) (fun u15 H locs hP hD hS => ?_)
  have hP : va_P g.1 vwCl [(q7, .inl (g.2 0, 384, .inl f8)), (q4, .inl (g.2 0, 40, .inl (upd (upd (upd (upd (upd (upd (upd (upd (upd (upd f5 1 x10) 2 1) 4 1) 9 1) 14 1) 19 1) 24 1) 29 1) 34 1) 39 1))), (q1, .inr (5, [.ref q7, .ref q4]))] H := hP
  have hD : va_D A [(q7, .inl (g.2 0, 384, .inl f8)), (q4, .inl (g.2 0, 40, .inl (upd (upd (upd (upd (upd (upd (upd (upd (upd (upd f5 1 x10) 2 1) 4 1) 9 1) 14 1) 19 1) 24 1) 29 1) 34 1) 39 1))), (q1, .inr (5, [.ref q7, .ref q4]))] := hD
  refine lv_aload_n hx hb dX3_measure_13 rfl (lv_at hl 1 rfl) ?_
  refine lv_iload_n hx hb dX3_measure_14 rfl (lv_at hl 0 rfl) ?_
  refine lv_iconst (v := 1) hx hb dX3_measure_15 (by decide) ?_
  refine g_i (wr := [(q7, .inl (g.2 0, 384, .inl f8))]) (rV (rest := []) hx hb hml hown hE hP hD 2 rfl rfl (c187_X3_figure l g q1 q4 (.ref q7) (upd (upd (upd (upd (upd (upd (upd (upd (upd (upd f5 1 x10) 2 1) 4 1) 9 1) 14 1) 19 1) 24 1) 29 1) 34 1) 39 1) (((pk_un (by decide)).trans ((pk_un (by decide)).trans ((pk_un (by decide)).trans ((pk_un (by decide)).trans ((pk_un (by decide)).trans ((pk_un (by decide)).trans ((pk_un (by decide)).trans ((pk_un (by decide)).trans ((pk_un (by decide)).trans ((pk_un (by decide)).trans hf39))))))))))) H.size) (kV_X3_figure hE (e343 hE) rfl rfl ⟨(Nat.le_of_ble_eq_true rfl), (Nat.le_of_ble_eq_true rfl)⟩) [1, 2] rfl (by decide) rfl hl.1 rfl (lv_room (Nat.le_of_ble_eq_true rfl)) dX3_measure_16 ⟨(Nat.le_of_ble_eq_true rfl), (Nat.le_of_ble_eq_true rfl)⟩) hP hD hS hA [1, 2] [0] rfl rfl (by decide) (by decide) (fun u16 H locs hP hD hS => ?_)
  have hP : va_P g.1 vwCl [(q7, .inl (g.2 0, 384, .inl f8)), (q4, .inl (g.2 0, 40, .inl (upd (upd (upd (upd (upd (upd (upd (upd (upd (upd f5 1 x10) 2 1) 4 1) 9 1) 14 1) 19 1) 24 1) 29 1) 34 1) 39 1))), (q1, .inr (5, [.ref q7, .ref q4]))] H := hP
  have hD : va_D A [(q7, .inl (g.2 0, 384, .inl f8)), (q4, .inl (g.2 0, 40, .inl (upd (upd (upd (upd (upd (upd (upd (upd (upd (upd f5 1 x10) 2 1) 4 1) 9 1) 14 1) 19 1) 24 1) 29 1) 34 1) 39 1))), (q1, .inr (5, [.ref q7, .ref q4]))] := hD
  refine lv_sipush (v := 20000) hx hb dX3_measure_19 (by decide) ?_
  refine lv_icmp_le (tgt := 27) hx hb dX3_measure_22 (by decide) (fun _ => ?_) (fun h => absurd (by decide) h)
  refine lv_iinc (v := 8) (lv' := [(1, .int 8), (0, .ref q1)]) hx hb dX3_measure_27 hl (k := 0) rfl (by decide) (by decide) rfl (fun ls hl => ?_)
  refine lv_goto (tgt := 2) hx hb dX3_measure_30 (by decide) ?_
  refine lv_iload_n hx hb dX3_measure_2 rfl (lv_at hl 0 rfl) ?_
  refine lv_bipush (v := 8) hx hb dX3_measure_3 (by decide) ?_
  refine lv_icmp_ge (tgt := 33) hx hb dX3_measure_5 (by decide) (fun _ => ?_) (fun h => absurd (by decide) h)
  refine lv_iconst (v := 1) hx hb dX3_measure_33 (by decide) ?_
  exact x_zret hx hb hr rfl rfl hlocks hP hD hS hAe hsz (Nat.le_of_ble_eq_true rfl) (Nat.le_of_ble_eq_true rfl) (fun _ => 0) [0, 1, 2] (by decide) rfl dX3_measure_34

set_option maxHeartbeats 4000000 in
set_option maxRecDepth 100000 in
theorem c189_X6_hasFittingClips (l : Launch) (g : gG) (q1 : Nat) (w2 w3 w4 w5 w7 w8 : Value) (sz : Nat) : Met l yX6_hasFittingClips [Cond.code yX6_hasFittingClips cX6_hasFittingClips 3 (some .boolean)] ({ frames := 0, cells := 0, slots := 0, locals := 0 } : Room) (va_Pc [.ref q1] (PX g sz [(q1, .inr (8, [w2, w3, w4, w5, .int 0, w7, w8]))])) (QI g [(q1, .inr (8, [w2, w3, w4, w5, .int 0, w7, w8]))] sz 1 (fun _ => [(q1, .inr (8, [w2, w3, w4, w5, .int 0, w7, w8]))])) 0 0 (va_A [(q1, .inr (8, [w2, w3, w4, w5, .int 0, w7, w8]))] sz) := by
  refine ofN (by decide) (Nat.le_of_ble_eq_true rfl) rfl ?_
  intro p e s m args below meth c A ls hAe hsz hx hb hml hr hlocks hin hown hE hP hD hA hS hl
  have hown : s.vm.findClass RX6 = some m.cls := hown
  refine lv_iconst (v := 0) hx hb dX6_hasFittingClips_0 (by decide) ?_
  refine lv_istore_n (lv' := [(1, .int 0), (0, .ref q1)]) hx hb dX6_hasFittingClips_1 rfl hl (by decide) rfl (fun ls hl => ?_)
  refine lv_iconst (v := 0) hx hb dX6_hasFittingClips_2 (by decide) ?_
  refine lv_istore_n (lv' := [(2, .int 0), (1, .int 0), (0, .ref q1)]) hx hb dX6_hasFittingClips_3 rfl hl (by decide) rfl (fun ls hl => ?_)
  refine lv_iload_n hx hb dX6_hasFittingClips_4 rfl (lv_at hl 0 rfl) ?_
  refine lv_aload_n hx hb dX6_hasFittingClips_5 rfl (lv_at hl 2 rfl) ?_
  refine gf_RX6_37 hx hb hown hE hP 0 rfl rfl dX6_hasFittingClips_6 ?_
  refine lv_icmp_ge (tgt := 39) hx hb dX6_hasFittingClips_9 (by decide) (fun _ => ?_) (fun h => absurd (by decide) h)
  refine lv_iload_n hx hb dX6_hasFittingClips_39 rfl (lv_at hl 1 rfl) ?_
  refine lv_sipush (v := 300) hx hb dX6_hasFittingClips_40 (by decide) ?_
  refine lv_icmp_gt (tgt := 50) hx hb dX6_hasFittingClips_43 (by decide) (fun h => absurd h (by decide)) (fun _ => ?_)
  refine lv_iconst (v := 1) hx hb dX6_hasFittingClips_46 (by decide) ?_
  refine lv_goto (tgt := 51) hx hb dX6_hasFittingClips_47 (by decide) ?_
  exact x_zret hx hb hr rfl rfl hlocks hP hD hS hAe hsz (Nat.le_of_ble_eq_true rfl) (Nat.le_of_ble_eq_true rfl) (fun _ => 0) [0] (by decide) rfl dX6_hasFittingClips_51

set_option maxHeartbeats 4000000 in
set_option maxRecDepth 100000 in
theorem c190_X8_acceptDraft (l : Launch) (g : gG) (q1 : Nat) (w2 : Value) (sz : Nat) : Met l yX8_acceptDraft [Cond.code yX8_acceptDraft cX8_acceptDraft 1 none] ({ frames := 1, cells := 0, slots := 0, locals := 24 } : Room) (va_Pc [.ref q1] (PX g sz [(q1, .inr (10, [w2, .int 0, .int 0]))])) (QV g [(q1, .inr (10, [w2, .int 0, .int 0]))] sz (fun _ => [(q1, .inr (10, [w2, .int 1, .int 1]))])) 0 0 (va_A [(q1, .inr (10, [w2, .int 0, .int 0]))] sz) := by
  refine ofN (by decide) (Nat.le_of_ble_eq_true rfl) rfl ?_
  intro p e s m args below meth c A ls hAe hsz hx hb hml hr hlocks hin hown hE hP hD hA hS hl
  have hown : s.vm.findClass RX8 = some m.cls := hown
  refine lv_aload_n hx hb dX8_acceptDraft_0 rfl (lv_at hl 0 rfl) ?_
  refine lv_aload_n hx hb dX8_acceptDraft_1 rfl (lv_at hl 0 rfl) ?_
  refine gf_RX8_17 hx hb hown hE hP 0 rfl rfl dX8_acceptDraft_2 ?_
  refine lv_iconst (v := 1) hx hb dX8_acceptDraft_5 (by decide) ?_
  refine x_iadd (v := 1) hx hb dX8_acceptDraft_6 (by decide) ?_
  refine lv_bipush (v := 10) hx hb dX8_acceptDraft_7 (by decide) ?_
  refine g0_i (rS (rest := [.ref q1]) hx hb hml hown hE hP hD (c118_J9_floorMod_7cf53 l g s.heap.size) (kS_J9_floorMod_7cf53 hE (e294 hE) rfl rfl ⟨(Nat.le_of_ble_eq_true rfl), (Nat.le_of_ble_eq_true rfl)⟩) [] rfl (by decide) rfl hl.1 rfl (lv_room (Nat.le_of_ble_eq_true rfl)) dX8_acceptDraft_9 ⟨(Nat.le_of_ble_eq_true rfl), (Nat.le_of_ble_eq_true rfl)⟩) hP hD hS hA (fun u9 H locs hP hS => ?_)
  refine pf_RX8_17 (ws' := [(q1, .inr (10, [w2, .int 1, .int 0]))]) hx hb hown hE hP hD hS 0 rfl rfl rfl (Nat.le_of_ble_eq_true rfl) dX8_acceptDraft_12 rfl (fun H locs hP hD hS => ?_)
  refine lv_aload_n hx hb dX8_acceptDraft_15 rfl (lv_at hl 0 rfl) ?_
  refine lv_aload_n hx hb dX8_acceptDraft_16 rfl (lv_at hl 0 rfl) ?_
  refine gf_RX8_21 hx hb hown hE hP 0 rfl rfl dX8_acceptDraft_17 ?_
  refine lv_iconst (v := 1) hx hb dX8_acceptDraft_20 (by decide) ?_
  refine x_iadd (v := 1) hx hb dX8_acceptDraft_21 (by decide) ?_
  refine lv_bipush (v := 8) hx hb dX8_acceptDraft_22 (by decide) ?_
  refine x_mmin (v := 1) hx hb (by rw [hml]; exact hl.1.symm) hown (e726 hE) (e362 hE) (e9 hE) (e363 hE) (Nat.le_of_ble_eq_true rfl) (Nat.le_of_ble_eq_true rfl) (Nat.le_of_ble_eq_true rfl) (Nat.le_of_ble_eq_true rfl) (by decide) dX8_acceptDraft_24 ?_
  refine pf_RX8_21 (ws' := [(q1, .inr (10, [w2, .int 1, .int 1]))]) hx hb hown hE hP hD hS 0 rfl rfl rfl (Nat.le_of_ble_eq_true rfl) dX8_acceptDraft_27 rfl (fun H locs hP hD hS => ?_)
  exact x_vret hx hb hr hlocks hP hD hS hAe hsz (Nat.le_of_ble_eq_true rfl) (Nat.le_of_ble_eq_true rfl) (fun _ => 0) [0] (by decide) rfl dX8_acceptDraft_30

set_option maxHeartbeats 4000000 in
set_option maxRecDepth 100000 in
theorem c191_X9_accept (l : Launch) (g : gG) (q1 q13 : Nat) (w3 w4 w5 w6 w7 w8 w9 w10 w11 w12 w14 : Value) (sz : Nat) : Met l yX9_accept [Cond.code yX9_accept cX9_accept 1 none] ({ frames := 2, cells := 0, slots := 0, locals := 44 } : Room) (va_Pc [.ref q1] (PX g sz [(q13, .inr (10, [w14, .int 0, .int 0])), (q1, .inr (11, [.ref q13, w3, w4, w5, w6, w7, w8, w9, w10, w11, w12]))])) (QV g [(q13, .inr (10, [w14, .int 0, .int 0])), (q1, .inr (11, [.ref q13, w3, w4, w5, w6, w7, w8, w9, w10, w11, w12]))] sz (fun _ => [(q13, .inr (10, [w14, .int 1, .int 1])), (q1, .inr (11, [.ref q13, w3, w4, w5, w6, w7, w8, w9, .int 0, .int 0, w12]))])) 0 0 (va_A [(q13, .inr (10, [w14, .int 0, .int 0])), (q1, .inr (11, [.ref q13, w3, w4, w5, w6, w7, w8, w9, w10, w11, w12]))] sz) := by
  refine ofN (by decide) (Nat.le_of_ble_eq_true rfl) rfl ?_
  intro p e s m args below meth c A ls hAe hsz hx hb hml hr hlocks hin hown hE hP hD hA hS hl
  have hown : s.vm.findClass RX9 = some m.cls := hown
  refine lv_aload_n hx hb dX9_accept_0 rfl (lv_at hl 0 rfl) ?_
  refine gf_RX9_12 hx hb hown hE hP 1 rfl rfl dX9_accept_1 ?_
  refine g_v (wr := [(q1, .inr (11, [.ref q13, w3, w4, w5, w6, w7, w8, w9, w10, w11, w12]))]) (rV (rest := []) hx hb hml hown hE hP hD 0 rfl rfl (c190_X8_acceptDraft l g q13 w14 s.heap.size) (kV_X8_acceptDraft hE (e722 hE) rfl rfl ⟨(Nat.le_of_ble_eq_true rfl), (Nat.le_of_ble_eq_true rfl)⟩) [0] rfl (by decide) rfl hl.1 rfl (lv_room (Nat.le_of_ble_eq_true rfl)) dX9_accept_4 ⟨(Nat.le_of_ble_eq_true rfl), (Nat.le_of_ble_eq_true rfl)⟩) hP hD hS hA [0] [1] rfl rfl (by decide) (by decide) (fun u1 H locs hP hD hS => ?_)
  have hP : va_P g.1 vwCl [(q1, .inr (11, [.ref q13, w3, w4, w5, w6, w7, w8, w9, w10, w11, w12])), (q13, .inr (10, [w14, .int 1, .int 1]))] H := hP
  have hD : va_D A [(q1, .inr (11, [.ref q13, w3, w4, w5, w6, w7, w8, w9, w10, w11, w12])), (q13, .inr (10, [w14, .int 1, .int 1]))] := hD
  refine lv_aload_n hx hb dX9_accept_7 rfl (lv_at hl 0 rfl) ?_
  refine g_v (wr := [(q13, .inr (10, [w14, .int 1, .int 1]))]) (rV (rest := []) hx hb hml hown hE hP hD 0 rfl rfl (c76_X9_outdate l g q1 (.ref q13) w3 w4 w5 w6 w7 w8 w9 w10 w11 w12 H.size) (kV_X9_outdate hE (e306 hE) rfl rfl ⟨(Nat.le_of_ble_eq_true rfl), (Nat.le_of_ble_eq_true rfl)⟩) [0] rfl (by decide) rfl hl.1 rfl (lv_room (Nat.le_of_ble_eq_true rfl)) dX9_accept_8 ⟨(Nat.le_of_ble_eq_true rfl), (Nat.le_of_ble_eq_true rfl)⟩) hP hD hS hA [0] [1] rfl rfl (by decide) (by decide) (fun u2 H locs hP hD hS => ?_)
  have hP : va_P g.1 vwCl [(q13, .inr (10, [w14, .int 1, .int 1])), (q1, .inr (11, [.ref q13, w3, w4, w5, w6, w7, w8, w9, .int 0, .int 0, w12]))] H := hP
  have hD : va_D A [(q13, .inr (10, [w14, .int 1, .int 1])), (q1, .inr (11, [.ref q13, w3, w4, w5, w6, w7, w8, w9, .int 0, .int 0, w12]))] := hD
  exact x_vret hx hb hr hlocks hP hD hS hAe hsz (Nat.le_of_ble_eq_true rfl) (Nat.le_of_ble_eq_true rfl) (fun _ => 0) [0, 1] (by decide) rfl dX9_accept_11

set_option maxHeartbeats 4000000 in
set_option maxRecDepth 100000 in
theorem c192_X9_acceptIfFitting (l : Launch) (g : gG) (q1 q2 q10 q13 q16 q62 : Nat) (x19 : Int32) (w4 w5 w6 w8 w9 w52 w53 w54 w55 w56 w57 w58 w59 w60 w61 w63 : Value) (f14 : Nat → Int32) (f17 : Nat → Int32) (hf15 : f14 0 = 1) (hf18 : f17 2 = x19) (hf20 : f17 0 = 0) (hf21 : f14 3 = 0) (hf23 : f14 5 = 0) (hf24 : f14 6 = 0) (hf25 : f14 7 = 0) (hf26 : f14 8 = 0) (hf27 : f14 10 = 0) (hf28 : f14 11 = 0) (hf29 : f14 12 = 0) (hf30 : f14 13 = 0) (hf31 : f14 15 = 0) (hf32 : f14 16 = 0) (hf33 : f14 17 = 0) (hf34 : f14 18 = 0) (hf35 : f14 20 = 0) (hf36 : f14 21 = 0) (hf37 : f14 22 = 0) (hf38 : f14 23 = 0) (hf39 : f14 25 = 0) (hf40 : f14 26 = 0) (hf41 : f14 27 = 0) (hf42 : f14 28 = 0) (hf43 : f14 30 = 0) (hf44 : f14 31 = 0) (hf45 : f14 32 = 0) (hf46 : f14 33 = 0) (hf47 : f14 35 = 0) (hf48 : f14 36 = 0) (hf49 : f14 37 = 0) (hf50 : f14 38 = 0) (h22 : x19 ≤ 20000) (sz : Nat) : Met l yX9_acceptIfFitting [Cond.code yX9_acceptIfFitting cX9_acceptIfFitting 2 none] ({ frames := 4, cells := 0, slots := 0, locals := 96 } : Room) (va_Pc [.ref q1, .ref q2] (PX g sz [(q62, .inr (10, [w63, .int 0, .int 0])), (q1, .inr (11, [.ref q62, w52, w53, w54, w55, w56, w57, w58, w59, w60, w61])), (q16, .inl (g.2 0, 384, .inl f17)), (q13, .inl (g.2 0, 40, .inl f14)), (q10, .inr (5, [.ref q16, .ref q13])), (q2, .inr (8, [.ref q10, w4, w5, w6, .int 0, w8, w9]))])) (QV g [(q62, .inr (10, [w63, .int 0, .int 0])), (q1, .inr (11, [.ref q62, w52, w53, w54, w55, w56, w57, w58, w59, w60, w61])), (q16, .inl (g.2 0, 384, .inl f17)), (q13, .inl (g.2 0, 40, .inl f14)), (q10, .inr (5, [.ref q16, .ref q13])), (q2, .inr (8, [.ref q10, w4, w5, w6, .int 0, w8, w9]))] sz (fun _ => [(q16, .inl (g.2 0, 384, .inl f17)), (q13, .inl (g.2 0, 40, .inl (upd (upd (upd (upd (upd (upd (upd (upd (upd (upd f14 1 x19) 2 1) 4 1) 9 1) 14 1) 19 1) 24 1) 29 1) 34 1) 39 1))), (q10, .inr (5, [.ref q16, .ref q13])), (q2, .inr (8, [.ref q10, w4, w5, w6, .int 0, w8, w9])), (q62, .inr (10, [w63, .int 1, .int 1])), (q1, .inr (11, [.ref q62, w52, w53, w54, w55, w56, w57, w58, .int 0, .int 0, w61]))])) 0 0 (va_A [(q62, .inr (10, [w63, .int 0, .int 0])), (q1, .inr (11, [.ref q62, w52, w53, w54, w55, w56, w57, w58, w59, w60, w61])), (q16, .inl (g.2 0, 384, .inl f17)), (q13, .inl (g.2 0, 40, .inl f14)), (q10, .inr (5, [.ref q16, .ref q13])), (q2, .inr (8, [.ref q10, w4, w5, w6, .int 0, w8, w9]))] sz) := by
  refine ofN (by decide) (Nat.le_of_ble_eq_true rfl) rfl ?_
  intro p e s m args below meth c A ls hAe hsz hx hb hml hr hlocks hin hown hE hP hD hA hS hl
  have hown : s.vm.findClass RX9 = some m.cls := hown
  refine lv_aload_n hx hb dX9_acceptIfFitting_0 rfl (lv_at hl 1 rfl) ?_
  refine gf_RX9_108 hx hb hown hE hP 5 rfl rfl dX9_acceptIfFitting_1 ?_
  refine g_i (wr := [(q62, .inr (10, [w63, .int 0, .int 0])), (q1, .inr (11, [.ref q62, w52, w53, w54, w55, w56, w57, w58, w59, w60, w61])), (q2, .inr (8, [.ref q10, w4, w5, w6, .int 0, w8, w9]))]) (rV (rest := []) hx hb hml hown hE hP hD 4 rfl rfl (c188_X3_measure l g q10 q13 q16 x19 f14 f17 (hf15) (hf18) (hf20) (hf21) (hf23) (hf24) (hf25) (hf26) (hf27) (hf28) (hf29) (hf30) (hf31) (hf32) (hf33) (hf34) (hf35) (hf36) (hf37) (hf38) (hf39) (hf40) (hf41) (hf42) (hf43) (hf44) (hf45) (hf46) (hf47) (hf48) (hf49) (hf50) h22 s.heap.size) (kV_X3_measure hE (e694 hE) rfl rfl ⟨(Nat.le_of_ble_eq_true rfl), (Nat.le_of_ble_eq_true rfl)⟩) [2, 3, 4] rfl (by decide) rfl hl.1 rfl (lv_room (Nat.le_of_ble_eq_true rfl)) dX9_acceptIfFitting_4 ⟨(Nat.le_of_ble_eq_true rfl), (Nat.le_of_ble_eq_true rfl)⟩) hP hD hS hA [2, 3, 4] [0, 1, 5] rfl rfl (by decide) (by decide) (fun u1 H locs hP hD hS => ?_)
  have hP : va_P g.1 vwCl [(q62, .inr (10, [w63, .int 0, .int 0])), (q1, .inr (11, [.ref q62, w52, w53, w54, w55, w56, w57, w58, w59, w60, w61])), (q2, .inr (8, [.ref q10, w4, w5, w6, .int 0, w8, w9])), (q16, .inl (g.2 0, 384, .inl f17)), (q13, .inl (g.2 0, 40, .inl (upd (upd (upd (upd (upd (upd (upd (upd (upd (upd f14 1 x19) 2 1) 4 1) 9 1) 14 1) 19 1) 24 1) 29 1) 34 1) 39 1))), (q10, .inr (5, [.ref q16, .ref q13]))] H := hP
  have hD : va_D A [(q62, .inr (10, [w63, .int 0, .int 0])), (q1, .inr (11, [.ref q62, w52, w53, w54, w55, w56, w57, w58, w59, w60, w61])), (q2, .inr (8, [.ref q10, w4, w5, w6, .int 0, w8, w9])), (q16, .inl (g.2 0, 384, .inl f17)), (q13, .inl (g.2 0, 40, .inl (upd (upd (upd (upd (upd (upd (upd (upd (upd (upd f14 1 x19) 2 1) 4 1) 9 1) 14 1) 19 1) 24 1) 29 1) 34 1) 39 1))), (q10, .inr (5, [.ref q16, .ref q13]))] := hD
  refine lv_if_eq (tgt := 17) hx hb dX9_acceptIfFitting_7 (by decide) (fun h => absurd h (by decide)) (fun _ => ?_)
  refine lv_aload_n hx hb dX9_acceptIfFitting_10 rfl (lv_at hl 1 rfl) ?_
  refine g_i (wr := [(q62, .inr (10, [w63, .int 0, .int 0])), (q1, .inr (11, [.ref q62, w52, w53, w54, w55, w56, w57, w58, w59, w60, w61])), (q16, .inl (g.2 0, 384, .inl f17)), (q13, .inl (g.2 0, 40, .inl (upd (upd (upd (upd (upd (upd (upd (upd (upd (upd f14 1 x19) 2 1) 4 1) 9 1) 14 1) 19 1) 24 1) 29 1) 34 1) 39 1))), (q10, .inr (5, [.ref q16, .ref q13]))]) (rV (rest := []) hx hb hml hown hE hP hD 2 rfl rfl (c189_X6_hasFittingClips l g q2 (.ref q10) w4 w5 w6 w8 w9 H.size) (kV_X6_hasFittingClips hE (e703 hE) rfl rfl ⟨(Nat.le_of_ble_eq_true rfl), (Nat.le_of_ble_eq_true rfl)⟩) [2] rfl (by decide) rfl hl.1 rfl (lv_room (Nat.le_of_ble_eq_true rfl)) dX9_acceptIfFitting_11 ⟨(Nat.le_of_ble_eq_true rfl), (Nat.le_of_ble_eq_true rfl)⟩) hP hD hS hA [2] [0, 1, 3, 4, 5] rfl rfl (by decide) (by decide) (fun u2 H locs hP hD hS => ?_)
  have hP : va_P g.1 vwCl [(q62, .inr (10, [w63, .int 0, .int 0])), (q1, .inr (11, [.ref q62, w52, w53, w54, w55, w56, w57, w58, w59, w60, w61])), (q16, .inl (g.2 0, 384, .inl f17)), (q13, .inl (g.2 0, 40, .inl (upd (upd (upd (upd (upd (upd (upd (upd (upd (upd f14 1 x19) 2 1) 4 1) 9 1) 14 1) 19 1) 24 1) 29 1) 34 1) 39 1))), (q10, .inr (5, [.ref q16, .ref q13])), (q2, .inr (8, [.ref q10, w4, w5, w6, .int 0, w8, w9]))] H := hP
  have hD : va_D A [(q62, .inr (10, [w63, .int 0, .int 0])), (q1, .inr (11, [.ref q62, w52, w53, w54, w55, w56, w57, w58, w59, w60, w61])), (q16, .inl (g.2 0, 384, .inl f17)), (q13, .inl (g.2 0, 40, .inl (upd (upd (upd (upd (upd (upd (upd (upd (upd (upd f14 1 x19) 2 1) 4 1) 9 1) 14 1) 19 1) 24 1) 29 1) 34 1) 39 1))), (q10, .inr (5, [.ref q16, .ref q13])), (q2, .inr (8, [.ref q10, w4, w5, w6, .int 0, w8, w9]))] := hD
  refine lv_if_ne (tgt := 28) hx hb dX9_acceptIfFitting_14 (by decide) (fun _ => ?_) (fun h => absurd h (by decide))
  refine lv_aload_n hx hb dX9_acceptIfFitting_28 rfl (lv_at hl 0 rfl) ?_
  refine g_v (wr := [(q16, .inl (g.2 0, 384, .inl f17)), (q13, .inl (g.2 0, 40, .inl (upd (upd (upd (upd (upd (upd (upd (upd (upd (upd f14 1 x19) 2 1) 4 1) 9 1) 14 1) 19 1) 24 1) 29 1) 34 1) 39 1))), (q10, .inr (5, [.ref q16, .ref q13])), (q2, .inr (8, [.ref q10, w4, w5, w6, .int 0, w8, w9]))]) (rV (rest := []) hx hb hml hown hE hP hD 1 rfl rfl (c191_X9_accept l g q1 q62 w52 w53 w54 w55 w56 w57 w58 w59 w60 w61 w63 H.size) (kV_X9_accept hE (e718 hE) rfl rfl ⟨(Nat.le_of_ble_eq_true rfl), (Nat.le_of_ble_eq_true rfl)⟩) [0, 1] rfl (by decide) rfl hl.1 rfl (lv_room (Nat.le_of_ble_eq_true rfl)) dX9_acceptIfFitting_29 ⟨(Nat.le_of_ble_eq_true rfl), (Nat.le_of_ble_eq_true rfl)⟩) hP hD hS hA [0, 1] [2, 3, 4, 5] rfl rfl (by decide) (by decide) (fun u3 H locs hP hD hS => ?_)
  have hP : va_P g.1 vwCl [(q16, .inl (g.2 0, 384, .inl f17)), (q13, .inl (g.2 0, 40, .inl (upd (upd (upd (upd (upd (upd (upd (upd (upd (upd f14 1 x19) 2 1) 4 1) 9 1) 14 1) 19 1) 24 1) 29 1) 34 1) 39 1))), (q10, .inr (5, [.ref q16, .ref q13])), (q2, .inr (8, [.ref q10, w4, w5, w6, .int 0, w8, w9])), (q62, .inr (10, [w63, .int 1, .int 1])), (q1, .inr (11, [.ref q62, w52, w53, w54, w55, w56, w57, w58, .int 0, .int 0, w61]))] H := hP
  have hD : va_D A [(q16, .inl (g.2 0, 384, .inl f17)), (q13, .inl (g.2 0, 40, .inl (upd (upd (upd (upd (upd (upd (upd (upd (upd (upd f14 1 x19) 2 1) 4 1) 9 1) 14 1) 19 1) 24 1) 29 1) 34 1) 39 1))), (q10, .inr (5, [.ref q16, .ref q13])), (q2, .inr (8, [.ref q10, w4, w5, w6, .int 0, w8, w9])), (q62, .inr (10, [w63, .int 1, .int 1])), (q1, .inr (11, [.ref q62, w52, w53, w54, w55, w56, w57, w58, .int 0, .int 0, w61]))] := hD
  exact x_vret hx hb hr hlocks hP hD hS hAe hsz (Nat.le_of_ble_eq_true rfl) (Nat.le_of_ble_eq_true rfl) (fun _ => 0) [0, 1, 2, 3, 4, 5] (by decide) rfl dX9_acceptIfFitting_32

set_option maxHeartbeats 4000000 in
set_option maxRecDepth 100000 in
theorem c193_X9_addOneItem (l : Launch) (g : gG) (q1 q16 q20 q23 q25 q33 q34 q35 q36 q44 q45 q46 q47 q50 q51 q54 q55 q62 q63 q68 q69 : Nat) (x2 x3 x4 : Int32) (w6 w7 w8 w9 w10 w11 w12 w13 w14 w15 w30 w31 w32 w66 w67 : Value) (f21 : Nat → Option Nat) (f56 : Nat → Int32) (f57 : Nat → Int32) (f70 : Nat → Int32) (f71 : Nat → Int32) (hf22 : f21 1 = some q23) (hf24 : f21 0 = some q25) (hf72 : f57 0 = 0) (hf73 : f56 0 = 0) (hf74 : f57 3 = 0) (hf76 : f57 5 = 0) (hf77 : f57 6 = 0) (hf78 : f57 7 = 0) (hf79 : f57 8 = 0) (hf80 : f57 10 = 0) (hf81 : f57 11 = 0) (hf82 : f57 12 = 0) (hf83 : f57 13 = 0) (hf84 : f57 15 = 0) (hf85 : f57 16 = 0) (hf86 : f57 17 = 0) (hf87 : f57 18 = 0) (hf88 : f57 20 = 0) (hf89 : f57 21 = 0) (hf90 : f57 22 = 0) (hf91 : f57 23 = 0) (hf92 : f57 25 = 0) (hf93 : f57 26 = 0) (hf94 : f57 27 = 0) (hf95 : f57 28 = 0) (hf96 : f57 30 = 0) (hf97 : f57 31 = 0) (hf98 : f57 32 = 0) (hf99 : f57 33 = 0) (hf100 : f57 35 = 0) (hf101 : f57 36 = 0) (hf102 : f57 37 = 0) (hf103 : f57 38 = 0) (h75 : x3 ≤ 20000) (sz : Nat) : Met l yX9_addOneItem [Cond.code yX9_addOneItem cX9_addOneItem 7 (some .int)] ({ frames := 5, cells := 0, slots := 0, locals := 148 } : Room) (va_Pc [.ref q1, .int 0, .int 0, .int x2, .int x3, .int x4] (PX g sz [(q36, .inl (g.2 0, 20, .inl f71)), (q47, .inl (g.2 0, 20, .inl f71)), (q35, .inl (g.2 0, 60, .inl f56)), (q46, .inl (g.2 0, 60, .inl f56)), (q69, .inl (g.2 0, 10, .inl f70)), (q63, .inl (g.2 0, 10, .inl f70)), (q68, .inl (g.2 0, 10, .inl f56)), (q62, .inl (g.2 0, 10, .inl f56)), (q34, .inr (9, [.ref q68, .ref q69, w66, w67])), (q45, .inr (9, [.ref q62, .ref q63, .int 1, .int 0])), (q55, .inl (g.2 0, 40, .inl f57)), (q51, .inl (g.2 0, 40, .inl f57)), (q54, .inl (g.2 0, 384, .inl f56)), (q50, .inl (g.2 0, 384, .inl f56)), (q33, .inr (5, [.ref q54, .ref q55])), (q44, .inr (5, [.ref q50, .ref q51])), (q25, .inr (8, [.ref q44, .ref q45, .ref q46, .ref q47, .int 0, .int 4, .int 0])), (q23, .inr (8, [.ref q33, .ref q34, .ref q35, .ref q36, w30, w31, w32])), (q20, .inl (g.2 3, 10, .inr (.inr (.inr (.inr f21))))), (q16, .inr (10, [.ref q20, .int 0, .int 0])), (q1, .inr (11, [.ref q16, w6, w7, w8, w9, w10, w11, w12, w13, w14, w15]))])) (QI g [(q36, .inl (g.2 0, 20, .inl f71)), (q47, .inl (g.2 0, 20, .inl f71)), (q35, .inl (g.2 0, 60, .inl f56)), (q46, .inl (g.2 0, 60, .inl f56)), (q69, .inl (g.2 0, 10, .inl f70)), (q63, .inl (g.2 0, 10, .inl f70)), (q68, .inl (g.2 0, 10, .inl f56)), (q62, .inl (g.2 0, 10, .inl f56)), (q34, .inr (9, [.ref q68, .ref q69, w66, w67])), (q45, .inr (9, [.ref q62, .ref q63, .int 1, .int 0])), (q55, .inl (g.2 0, 40, .inl f57)), (q51, .inl (g.2 0, 40, .inl f57)), (q54, .inl (g.2 0, 384, .inl f56)), (q50, .inl (g.2 0, 384, .inl f56)), (q33, .inr (5, [.ref q54, .ref q55])), (q44, .inr (5, [.ref q50, .ref q51])), (q25, .inr (8, [.ref q44, .ref q45, .ref q46, .ref q47, .int 0, .int 4, .int 0])), (q23, .inr (8, [.ref q33, .ref q34, .ref q35, .ref q36, w30, w31, w32])), (q20, .inl (g.2 3, 10, .inr (.inr (.inr (.inr f21))))), (q16, .inr (10, [.ref q20, .int 0, .int 0])), (q1, .inr (11, [.ref q16, w6, w7, w8, w9, w10, w11, w12, w13, w14, w15]))] sz 1 (fun _ => [(q20, .inl (g.2 3, 10, .inr (.inr (.inr (.inr f21))))), (q25, .inr (8, [.ref q44, .ref q45, .ref q46, .ref q47, .int 0, .int 4, .int 0])), (q44, .inr (5, [.ref q50, .ref q51])), (q50, .inl (g.2 0, 384, .inl f56)), (q51, .inl (g.2 0, 40, .inl f57)), (q34, .inr (9, [.ref q68, .ref q69, .int 1, .int 0])), (q45, .inr (9, [.ref q62, .ref q63, .int 1, .int 0])), (q68, .inl (g.2 0, 10, .inl f56)), (q62, .inl (g.2 0, 10, .inl f56)), (q69, .inl (g.2 0, 10, .inl f70)), (q63, .inl (g.2 0, 10, .inl f70)), (q35, .inl (g.2 0, 60, .inl f56)), (q46, .inl (g.2 0, 60, .inl f56)), (q36, .inl (g.2 0, 20, .inl f71)), (q47, .inl (g.2 0, 20, .inl f71)), (q54, .inl (g.2 0, 384, .inl (upd (upd (upd f56 1 x2) 2 x3) 3 x4))), (q23, .inr (8, [.ref q33, .ref q34, .ref q35, .ref q36, .int 0, .int 4, .int 0])), (q16, .inr (10, [.ref q20, .int 1, .int 1])), (q1, .inr (11, [.ref q16, w6, w7, w8, w9, w10, w11, w12, .int 0, .int 0, w15])), (q55, .inl (g.2 0, 40, .inl (upd (upd (upd (upd (upd (upd (upd (upd (upd (upd (upd f57 0 1) 1 x3) 2 1) 4 1) 9 1) 14 1) 19 1) 24 1) 29 1) 34 1) 39 1))), (q33, .inr (5, [.ref q54, .ref q55]))])) 0 0 (va_A [(q36, .inl (g.2 0, 20, .inl f71)), (q47, .inl (g.2 0, 20, .inl f71)), (q35, .inl (g.2 0, 60, .inl f56)), (q46, .inl (g.2 0, 60, .inl f56)), (q69, .inl (g.2 0, 10, .inl f70)), (q63, .inl (g.2 0, 10, .inl f70)), (q68, .inl (g.2 0, 10, .inl f56)), (q62, .inl (g.2 0, 10, .inl f56)), (q34, .inr (9, [.ref q68, .ref q69, w66, w67])), (q45, .inr (9, [.ref q62, .ref q63, .int 1, .int 0])), (q55, .inl (g.2 0, 40, .inl f57)), (q51, .inl (g.2 0, 40, .inl f57)), (q54, .inl (g.2 0, 384, .inl f56)), (q50, .inl (g.2 0, 384, .inl f56)), (q33, .inr (5, [.ref q54, .ref q55])), (q44, .inr (5, [.ref q50, .ref q51])), (q25, .inr (8, [.ref q44, .ref q45, .ref q46, .ref q47, .int 0, .int 4, .int 0])), (q23, .inr (8, [.ref q33, .ref q34, .ref q35, .ref q36, w30, w31, w32])), (q20, .inl (g.2 3, 10, .inr (.inr (.inr (.inr f21))))), (q16, .inr (10, [.ref q20, .int 0, .int 0])), (q1, .inr (11, [.ref q16, w6, w7, w8, w9, w10, w11, w12, w13, w14, w15]))] sz) := by
  refine ofN (by decide) (Nat.le_of_ble_eq_true rfl) rfl ?_
  intro p e s m args below meth c A ls hAe hsz hx hb hml hr hlocks hin hown hE hP hD hA hS hl
  have hown : s.vm.findClass RX9 = some m.cls := hown
  refine lv_aload_n hx hb dX9_addOneItem_0 rfl (lv_at hl 0 rfl) ?_
  refine gf_RX9_12 hx hb hown hE hP 20 rfl rfl dX9_addOneItem_1 ?_
  refine g_r (wr := [(q1, .inr (11, [.ref q16, w6, w7, w8, w9, w10, w11, w12, w13, w14, w15]))]) (rV (rest := []) hx hb hml hown hE hP hD 19 rfl rfl (c127_X8_draft l g q16 q20 q23 q25 q33 q44 q50 q54 q51 q55 q34 q45 q62 q68 q63 q69 q46 q35 q47 q36 (.int 0) w30 w31 w32 w66 w67 f21 f56 f57 f70 f71 (hf22) (hf24) s.heap.size) (kV_X8_draft hE (e659 hE) rfl rfl ⟨(Nat.le_of_ble_eq_true rfl), (Nat.le_of_ble_eq_true rfl)⟩) [0, 1, 2, 3, 4, 5, 6, 7, 8, 9, 10, 11, 12, 13, 14, 15, 16, 17, 18, 19] rfl (by decide) rfl hl.1 rfl (lv_room (Nat.le_of_ble_eq_true rfl)) dX9_addOneItem_4 ⟨(Nat.le_of_ble_eq_true rfl), (Nat.le_of_ble_eq_true rfl)⟩) hP hD hS hA [0, 1, 2, 3, 4, 5, 6, 7, 8, 9, 10, 11, 12, 13, 14, 15, 16, 17, 18, 19] [20] rfl rfl (by decide) (by decide) (fun u1 H locs hP hD hS => ?_)
  have hP : va_P g.1 vwCl [(q1, .inr (11, [.ref q16, w6, w7, w8, w9, w10, w11, w12, w13, w14, w15])), (q20, .inl (g.2 3, 10, .inr (.inr (.inr (.inr f21))))), (q16, .inr (10, [.ref q20, .int 0, .int 0])), (q25, .inr (8, [.ref q44, .ref q45, .ref q46, .ref q47, .int 0, .int 4, .int 0])), (q23, .inr (8, [.ref q33, .ref q34, .ref q35, .ref q36, .int 0, .int 4, .int 0])), (q33, .inr (5, [.ref q54, .ref q55])), (q44, .inr (5, [.ref q50, .ref q51])), (q54, .inl (g.2 0, 384, .inl f56)), (q50, .inl (g.2 0, 384, .inl f56)), (q55, .inl (g.2 0, 40, .inl f57)), (q51, .inl (g.2 0, 40, .inl f57)), (q34, .inr (9, [.ref q68, .ref q69, .int 1, .int 0])), (q45, .inr (9, [.ref q62, .ref q63, .int 1, .int 0])), (q68, .inl (g.2 0, 10, .inl f56)), (q62, .inl (g.2 0, 10, .inl f56)), (q69, .inl (g.2 0, 10, .inl f70)), (q63, .inl (g.2 0, 10, .inl f70)), (q35, .inl (g.2 0, 60, .inl f56)), (q46, .inl (g.2 0, 60, .inl f56)), (q36, .inl (g.2 0, 20, .inl f71)), (q47, .inl (g.2 0, 20, .inl f71))] H := hP
  have hD : va_D A [(q1, .inr (11, [.ref q16, w6, w7, w8, w9, w10, w11, w12, w13, w14, w15])), (q20, .inl (g.2 3, 10, .inr (.inr (.inr (.inr f21))))), (q16, .inr (10, [.ref q20, .int 0, .int 0])), (q25, .inr (8, [.ref q44, .ref q45, .ref q46, .ref q47, .int 0, .int 4, .int 0])), (q23, .inr (8, [.ref q33, .ref q34, .ref q35, .ref q36, .int 0, .int 4, .int 0])), (q33, .inr (5, [.ref q54, .ref q55])), (q44, .inr (5, [.ref q50, .ref q51])), (q54, .inl (g.2 0, 384, .inl f56)), (q50, .inl (g.2 0, 384, .inl f56)), (q55, .inl (g.2 0, 40, .inl f57)), (q51, .inl (g.2 0, 40, .inl f57)), (q34, .inr (9, [.ref q68, .ref q69, .int 1, .int 0])), (q45, .inr (9, [.ref q62, .ref q63, .int 1, .int 0])), (q68, .inl (g.2 0, 10, .inl f56)), (q62, .inl (g.2 0, 10, .inl f56)), (q69, .inl (g.2 0, 10, .inl f70)), (q63, .inl (g.2 0, 10, .inl f70)), (q35, .inl (g.2 0, 60, .inl f56)), (q46, .inl (g.2 0, 60, .inl f56)), (q36, .inl (g.2 0, 20, .inl f71)), (q47, .inl (g.2 0, 20, .inl f71))] := hD
  refine lv_astore (lv' := [(6, .ref q23), (0, .ref q1), (1, .int 0), (2, .int 0), (3, .int x2), (4, .int x3), (5, .int x4)]) hx hb dX9_addOneItem_7 hl (by decide) rfl (fun ls hl => ?_)
  refine lv_aload hx hb dX9_addOneItem_9 (lv_at hl 0 rfl) ?_
  refine lv_iload_n hx hb dX9_addOneItem_11 rfl (lv_at hl 2 rfl) ?_
  refine lv_iload_n hx hb dX9_addOneItem_12 rfl (lv_at hl 3 rfl) ?_
  refine lv_iload_n hx hb dX9_addOneItem_13 rfl (lv_at hl 4 rfl) ?_
  refine lv_iload hx hb dX9_addOneItem_14 (lv_at hl 5 rfl) ?_
  refine lv_iload hx hb dX9_addOneItem_16 (lv_at hl 6 rfl) ?_
  refine g_v (wr := [(q1, .inr (11, [.ref q16, w6, w7, w8, w9, w10, w11, w12, w13, w14, w15])), (q20, .inl (g.2 3, 10, .inr (.inr (.inr (.inr f21))))), (q16, .inr (10, [.ref q20, .int 0, .int 0])), (q25, .inr (8, [.ref q44, .ref q45, .ref q46, .ref q47, .int 0, .int 4, .int 0])), (q44, .inr (5, [.ref q50, .ref q51])), (q50, .inl (g.2 0, 384, .inl f56)), (q51, .inl (g.2 0, 40, .inl f57)), (q34, .inr (9, [.ref q68, .ref q69, .int 1, .int 0])), (q45, .inr (9, [.ref q62, .ref q63, .int 1, .int 0])), (q68, .inl (g.2 0, 10, .inl f56)), (q62, .inl (g.2 0, 10, .inl f56)), (q69, .inl (g.2 0, 10, .inl f70)), (q63, .inl (g.2 0, 10, .inl f70)), (q35, .inl (g.2 0, 60, .inl f56)), (q46, .inl (g.2 0, 60, .inl f56)), (q36, .inl (g.2 0, 20, .inl f71)), (q47, .inl (g.2 0, 20, .inl f71))]) (rS (rest := []) hx hb hml hown hE hP hD (c135_X9_putItem l g q23 q33 q55 q54 x2 x3 x4 (.ref q34) (.ref q35) (.ref q36) (.int 0) (.int 4) (.int 0) f57 f56 (hf72) (hf73) H.size) (kS_X9_putItem hE (e665 hE) rfl rfl ⟨(Nat.le_of_ble_eq_true rfl), (Nat.le_of_ble_eq_true rfl)⟩) [7, 9, 5, 4] rfl (by decide) rfl hl.1 rfl (lv_room (Nat.le_of_ble_eq_true rfl)) dX9_addOneItem_18 ⟨(Nat.le_of_ble_eq_true rfl), (Nat.le_of_ble_eq_true rfl)⟩) hP hD hS hA [7, 9, 5, 4] [0, 1, 2, 3, 6, 8, 10, 11, 12, 13, 14, 15, 16, 17, 18, 19, 20] rfl rfl (by decide) (by decide) (fun u2 H locs hP hD hS => ?_)
  have hP : va_P g.1 vwCl [(q1, .inr (11, [.ref q16, w6, w7, w8, w9, w10, w11, w12, w13, w14, w15])), (q20, .inl (g.2 3, 10, .inr (.inr (.inr (.inr f21))))), (q16, .inr (10, [.ref q20, .int 0, .int 0])), (q25, .inr (8, [.ref q44, .ref q45, .ref q46, .ref q47, .int 0, .int 4, .int 0])), (q44, .inr (5, [.ref q50, .ref q51])), (q50, .inl (g.2 0, 384, .inl f56)), (q51, .inl (g.2 0, 40, .inl f57)), (q34, .inr (9, [.ref q68, .ref q69, .int 1, .int 0])), (q45, .inr (9, [.ref q62, .ref q63, .int 1, .int 0])), (q68, .inl (g.2 0, 10, .inl f56)), (q62, .inl (g.2 0, 10, .inl f56)), (q69, .inl (g.2 0, 10, .inl f70)), (q63, .inl (g.2 0, 10, .inl f70)), (q35, .inl (g.2 0, 60, .inl f56)), (q46, .inl (g.2 0, 60, .inl f56)), (q36, .inl (g.2 0, 20, .inl f71)), (q47, .inl (g.2 0, 20, .inl f71)), (q23, .inr (8, [.ref q33, .ref q34, .ref q35, .ref q36, .int 0, .int 4, .int 0])), (q54, .inl (g.2 0, 384, .inl (upd (upd (upd f56 1 x2) 2 x3) 3 x4))), (q55, .inl (g.2 0, 40, .inl (upd f57 0 1))), (q33, .inr (5, [.ref q54, .ref q55]))] H := hP
  have hD : va_D A [(q1, .inr (11, [.ref q16, w6, w7, w8, w9, w10, w11, w12, w13, w14, w15])), (q20, .inl (g.2 3, 10, .inr (.inr (.inr (.inr f21))))), (q16, .inr (10, [.ref q20, .int 0, .int 0])), (q25, .inr (8, [.ref q44, .ref q45, .ref q46, .ref q47, .int 0, .int 4, .int 0])), (q44, .inr (5, [.ref q50, .ref q51])), (q50, .inl (g.2 0, 384, .inl f56)), (q51, .inl (g.2 0, 40, .inl f57)), (q34, .inr (9, [.ref q68, .ref q69, .int 1, .int 0])), (q45, .inr (9, [.ref q62, .ref q63, .int 1, .int 0])), (q68, .inl (g.2 0, 10, .inl f56)), (q62, .inl (g.2 0, 10, .inl f56)), (q69, .inl (g.2 0, 10, .inl f70)), (q63, .inl (g.2 0, 10, .inl f70)), (q35, .inl (g.2 0, 60, .inl f56)), (q46, .inl (g.2 0, 60, .inl f56)), (q36, .inl (g.2 0, 20, .inl f71)), (q47, .inl (g.2 0, 20, .inl f71)), (q23, .inr (8, [.ref q33, .ref q34, .ref q35, .ref q36, .int 0, .int 4, .int 0])), (q54, .inl (g.2 0, 384, .inl (upd (upd (upd f56 1 x2) 2 x3) 3 x4))), (q55, .inl (g.2 0, 40, .inl (upd f57 0 1))), (q33, .inr (5, [.ref q54, .ref q55]))] := hD
  refine lv_aload_n hx hb dX9_addOneItem_21 rfl (lv_at hl 1 rfl) ?_
  refine lv_aload hx hb dX9_addOneItem_22 (lv_at hl 0 rfl) ?_
  refine g_v (wr := [(q20, .inl (g.2 3, 10, .inr (.inr (.inr (.inr f21))))), (q25, .inr (8, [.ref q44, .ref q45, .ref q46, .ref q47, .int 0, .int 4, .int 0])), (q44, .inr (5, [.ref q50, .ref q51])), (q50, .inl (g.2 0, 384, .inl f56)), (q51, .inl (g.2 0, 40, .inl f57)), (q34, .inr (9, [.ref q68, .ref q69, .int 1, .int 0])), (q45, .inr (9, [.ref q62, .ref q63, .int 1, .int 0])), (q68, .inl (g.2 0, 10, .inl f56)), (q62, .inl (g.2 0, 10, .inl f56)), (q69, .inl (g.2 0, 10, .inl f70)), (q63, .inl (g.2 0, 10, .inl f70)), (q35, .inl (g.2 0, 60, .inl f56)), (q46, .inl (g.2 0, 60, .inl f56)), (q36, .inl (g.2 0, 20, .inl f71)), (q47, .inl (g.2 0, 20, .inl f71))]) (rV (rest := []) hx hb hml hown hE hP hD 0 rfl rfl (c192_X9_acceptIfFitting l g q1 q23 q33 q55 q54 q16 x3 (.ref q34) (.ref q35) (.ref q36) (.int 4) (.int 0) w6 w7 w8 w9 w10 w11 w12 w13 w14 w15 (.ref q20) (upd f57 0 1) (upd (upd (upd f56 1 x2) 2 x3) 3 x4) (pk_us) (((pk_un (by decide)).trans pk_us)) (((pk_un (by decide)).trans ((pk_un (by decide)).trans ((pk_un (by decide)).trans hf73)))) (((pk_un (by decide)).trans hf74)) (((pk_un (by decide)).trans hf76)) (((pk_un (by decide)).trans hf77)) (((pk_un (by decide)).trans hf78)) (((pk_un (by decide)).trans hf79)) (((pk_un (by decide)).trans hf80)) (((pk_un (by decide)).trans hf81)) (((pk_un (by decide)).trans hf82)) (((pk_un (by decide)).trans hf83)) (((pk_un (by decide)).trans hf84)) (((pk_un (by decide)).trans hf85)) (((pk_un (by decide)).trans hf86)) (((pk_un (by decide)).trans hf87)) (((pk_un (by decide)).trans hf88)) (((pk_un (by decide)).trans hf89)) (((pk_un (by decide)).trans hf90)) (((pk_un (by decide)).trans hf91)) (((pk_un (by decide)).trans hf92)) (((pk_un (by decide)).trans hf93)) (((pk_un (by decide)).trans hf94)) (((pk_un (by decide)).trans hf95)) (((pk_un (by decide)).trans hf96)) (((pk_un (by decide)).trans hf97)) (((pk_un (by decide)).trans hf98)) (((pk_un (by decide)).trans hf99)) (((pk_un (by decide)).trans hf100)) (((pk_un (by decide)).trans hf101)) (((pk_un (by decide)).trans hf102)) (((pk_un (by decide)).trans hf103)) h75 H.size) (kV_X9_acceptIfFitting hE (e690 hE) rfl rfl ⟨(Nat.le_of_ble_eq_true rfl), (Nat.le_of_ble_eq_true rfl)⟩) [2, 0, 18, 19, 20, 17] rfl (by decide) rfl hl.1 rfl (lv_room (Nat.le_of_ble_eq_true rfl)) dX9_addOneItem_24 ⟨(Nat.le_of_ble_eq_true rfl), (Nat.le_of_ble_eq_true rfl)⟩) hP hD hS hA [2, 0, 18, 19, 20, 17] [1, 3, 4, 5, 6, 7, 8, 9, 10, 11, 12, 13, 14, 15, 16] rfl rfl (by decide) (by decide) (fun u3 H locs hP hD hS => ?_)
  have hP : va_P g.1 vwCl [(q20, .inl (g.2 3, 10, .inr (.inr (.inr (.inr f21))))), (q25, .inr (8, [.ref q44, .ref q45, .ref q46, .ref q47, .int 0, .int 4, .int 0])), (q44, .inr (5, [.ref q50, .ref q51])), (q50, .inl (g.2 0, 384, .inl f56)), (q51, .inl (g.2 0, 40, .inl f57)), (q34, .inr (9, [.ref q68, .ref q69, .int 1, .int 0])), (q45, .inr (9, [.ref q62, .ref q63, .int 1, .int 0])), (q68, .inl (g.2 0, 10, .inl f56)), (q62, .inl (g.2 0, 10, .inl f56)), (q69, .inl (g.2 0, 10, .inl f70)), (q63, .inl (g.2 0, 10, .inl f70)), (q35, .inl (g.2 0, 60, .inl f56)), (q46, .inl (g.2 0, 60, .inl f56)), (q36, .inl (g.2 0, 20, .inl f71)), (q47, .inl (g.2 0, 20, .inl f71)), (q54, .inl (g.2 0, 384, .inl (upd (upd (upd f56 1 x2) 2 x3) 3 x4))), (q55, .inl (g.2 0, 40, .inl (upd (upd (upd (upd (upd (upd (upd (upd (upd (upd (upd f57 0 1) 1 x3) 2 1) 4 1) 9 1) 14 1) 19 1) 24 1) 29 1) 34 1) 39 1))), (q33, .inr (5, [.ref q54, .ref q55])), (q23, .inr (8, [.ref q33, .ref q34, .ref q35, .ref q36, .int 0, .int 4, .int 0])), (q16, .inr (10, [.ref q20, .int 1, .int 1])), (q1, .inr (11, [.ref q16, w6, w7, w8, w9, w10, w11, w12, .int 0, .int 0, w15]))] H := hP
  have hD : va_D A [(q20, .inl (g.2 3, 10, .inr (.inr (.inr (.inr f21))))), (q25, .inr (8, [.ref q44, .ref q45, .ref q46, .ref q47, .int 0, .int 4, .int 0])), (q44, .inr (5, [.ref q50, .ref q51])), (q50, .inl (g.2 0, 384, .inl f56)), (q51, .inl (g.2 0, 40, .inl f57)), (q34, .inr (9, [.ref q68, .ref q69, .int 1, .int 0])), (q45, .inr (9, [.ref q62, .ref q63, .int 1, .int 0])), (q68, .inl (g.2 0, 10, .inl f56)), (q62, .inl (g.2 0, 10, .inl f56)), (q69, .inl (g.2 0, 10, .inl f70)), (q63, .inl (g.2 0, 10, .inl f70)), (q35, .inl (g.2 0, 60, .inl f56)), (q46, .inl (g.2 0, 60, .inl f56)), (q36, .inl (g.2 0, 20, .inl f71)), (q47, .inl (g.2 0, 20, .inl f71)), (q54, .inl (g.2 0, 384, .inl (upd (upd (upd f56 1 x2) 2 x3) 3 x4))), (q55, .inl (g.2 0, 40, .inl (upd (upd (upd (upd (upd (upd (upd (upd (upd (upd (upd f57 0 1) 1 x3) 2 1) 4 1) 9 1) 14 1) 19 1) 24 1) 29 1) 34 1) 39 1))), (q33, .inr (5, [.ref q54, .ref q55])), (q23, .inr (8, [.ref q33, .ref q34, .ref q35, .ref q36, .int 0, .int 4, .int 0])), (q16, .inr (10, [.ref q20, .int 1, .int 1])), (q1, .inr (11, [.ref q16, w6, w7, w8, w9, w10, w11, w12, .int 0, .int 0, w15]))] := hD
  refine lv_aload hx hb dX9_addOneItem_27 (lv_at hl 0 rfl) ?_
  refine gf_RX9_108 hx hb hown hE hP 18 rfl rfl dX9_addOneItem_29 ?_
  refine lv_iload_n hx hb dX9_addOneItem_32 rfl (lv_at hl 2 rfl) ?_
  refine lv_iconst (v := 0) hx hb dX9_addOneItem_33 (by decide) ?_
  refine g_i (wr := [(q20, .inl (g.2 3, 10, .inr (.inr (.inr (.inr f21))))), (q25, .inr (8, [.ref q44, .ref q45, .ref q46, .ref q47, .int 0, .int 4, .int 0])), (q44, .inr (5, [.ref q50, .ref q51])), (q50, .inl (g.2 0, 384, .inl f56)), (q51, .inl (g.2 0, 40, .inl f57)), (q34, .inr (9, [.ref q68, .ref q69, .int 1, .int 0])), (q45, .inr (9, [.ref q62, .ref q63, .int 1, .int 0])), (q68, .inl (g.2 0, 10, .inl f56)), (q62, .inl (g.2 0, 10, .inl f56)), (q69, .inl (g.2 0, 10, .inl f70)), (q63, .inl (g.2 0, 10, .inl f70)), (q35, .inl (g.2 0, 60, .inl f56)), (q46, .inl (g.2 0, 60, .inl f56)), (q36, .inl (g.2 0, 20, .inl f71)), (q47, .inl (g.2 0, 20, .inl f71)), (q54, .inl (g.2 0, 384, .inl (upd (upd (upd f56 1 x2) 2 x3) 3 x4))), (q23, .inr (8, [.ref q33, .ref q34, .ref q35, .ref q36, .int 0, .int 4, .int 0])), (q16, .inr (10, [.ref q20, .int 1, .int 1])), (q1, .inr (11, [.ref q16, w6, w7, w8, w9, w10, w11, w12, .int 0, .int 0, w15]))]) (rV (rest := []) hx hb hml hown hE hP hD 17 rfl rfl (c136_X3_figure l g q33 q55 (.ref q54) (upd (upd (upd (upd (upd (upd (upd (upd (upd (upd (upd f57 0 1) 1 x3) 2 1) 4 1) 9 1) 14 1) 19 1) 24 1) 29 1) 34 1) 39 1) (((pk_un (by decide)).trans ((pk_un (by decide)).trans ((pk_un (by decide)).trans ((pk_un (by decide)).trans ((pk_un (by decide)).trans ((pk_un (by decide)).trans ((pk_un (by decide)).trans ((pk_un (by decide)).trans ((pk_un (by decide)).trans ((pk_un (by decide)).trans pk_us))))))))))) H.size) (kV_X3_figure hE (e668 hE) rfl rfl ⟨(Nat.le_of_ble_eq_true rfl), (Nat.le_of_ble_eq_true rfl)⟩) [16, 17] rfl (by decide) rfl hl.1 rfl (lv_room (Nat.le_of_ble_eq_true rfl)) dX9_addOneItem_34 ⟨(Nat.le_of_ble_eq_true rfl), (Nat.le_of_ble_eq_true rfl)⟩) hP hD hS hA [16, 17] [0, 1, 2, 3, 4, 5, 6, 7, 8, 9, 10, 11, 12, 13, 14, 15, 18, 19, 20] rfl rfl (by decide) (by decide) (fun u4 H locs hP hD hS => ?_)
  have hP : va_P g.1 vwCl [(q20, .inl (g.2 3, 10, .inr (.inr (.inr (.inr f21))))), (q25, .inr (8, [.ref q44, .ref q45, .ref q46, .ref q47, .int 0, .int 4, .int 0])), (q44, .inr (5, [.ref q50, .ref q51])), (q50, .inl (g.2 0, 384, .inl f56)), (q51, .inl (g.2 0, 40, .inl f57)), (q34, .inr (9, [.ref q68, .ref q69, .int 1, .int 0])), (q45, .inr (9, [.ref q62, .ref q63, .int 1, .int 0])), (q68, .inl (g.2 0, 10, .inl f56)), (q62, .inl (g.2 0, 10, .inl f56)), (q69, .inl (g.2 0, 10, .inl f70)), (q63, .inl (g.2 0, 10, .inl f70)), (q35, .inl (g.2 0, 60, .inl f56)), (q46, .inl (g.2 0, 60, .inl f56)), (q36, .inl (g.2 0, 20, .inl f71)), (q47, .inl (g.2 0, 20, .inl f71)), (q54, .inl (g.2 0, 384, .inl (upd (upd (upd f56 1 x2) 2 x3) 3 x4))), (q23, .inr (8, [.ref q33, .ref q34, .ref q35, .ref q36, .int 0, .int 4, .int 0])), (q16, .inr (10, [.ref q20, .int 1, .int 1])), (q1, .inr (11, [.ref q16, w6, w7, w8, w9, w10, w11, w12, .int 0, .int 0, w15])), (q55, .inl (g.2 0, 40, .inl (upd (upd (upd (upd (upd (upd (upd (upd (upd (upd (upd f57 0 1) 1 x3) 2 1) 4 1) 9 1) 14 1) 19 1) 24 1) 29 1) 34 1) 39 1))), (q33, .inr (5, [.ref q54, .ref q55]))] H := hP
  have hD : va_D A [(q20, .inl (g.2 3, 10, .inr (.inr (.inr (.inr f21))))), (q25, .inr (8, [.ref q44, .ref q45, .ref q46, .ref q47, .int 0, .int 4, .int 0])), (q44, .inr (5, [.ref q50, .ref q51])), (q50, .inl (g.2 0, 384, .inl f56)), (q51, .inl (g.2 0, 40, .inl f57)), (q34, .inr (9, [.ref q68, .ref q69, .int 1, .int 0])), (q45, .inr (9, [.ref q62, .ref q63, .int 1, .int 0])), (q68, .inl (g.2 0, 10, .inl f56)), (q62, .inl (g.2 0, 10, .inl f56)), (q69, .inl (g.2 0, 10, .inl f70)), (q63, .inl (g.2 0, 10, .inl f70)), (q35, .inl (g.2 0, 60, .inl f56)), (q46, .inl (g.2 0, 60, .inl f56)), (q36, .inl (g.2 0, 20, .inl f71)), (q47, .inl (g.2 0, 20, .inl f71)), (q54, .inl (g.2 0, 384, .inl (upd (upd (upd f56 1 x2) 2 x3) 3 x4))), (q23, .inr (8, [.ref q33, .ref q34, .ref q35, .ref q36, .int 0, .int 4, .int 0])), (q16, .inr (10, [.ref q20, .int 1, .int 1])), (q1, .inr (11, [.ref q16, w6, w7, w8, w9, w10, w11, w12, .int 0, .int 0, w15])), (q55, .inl (g.2 0, 40, .inl (upd (upd (upd (upd (upd (upd (upd (upd (upd (upd (upd f57 0 1) 1 x3) 2 1) 4 1) 9 1) 14 1) 19 1) 24 1) 29 1) 34 1) 39 1))), (q33, .inr (5, [.ref q54, .ref q55]))] := hD
  exact x_zret hx hb hr rfl rfl hlocks hP hD hS hAe hsz (Nat.le_of_ble_eq_true rfl) (Nat.le_of_ble_eq_true rfl) (fun _ => 0) [0, 1, 2, 3, 4, 5, 6, 7, 8, 9, 10, 11, 12, 13, 14, 15, 16, 17, 18, 19, 20] (by decide) rfl dX9_addOneItem_37

set_option maxHeartbeats 4000000 in
set_option maxRecDepth 100000 in
theorem c194_X9_addNote (l : Launch) (g : gG) (q1 q22 q26 q29 q31 q39 q40 q41 q42 q50 q51 q52 q53 q56 q57 q60 q61 q68 q69 q74 q75 : Nat) (x2 x3 x4 : Int32) (w12 w13 w14 w15 w16 w17 w18 w19 w20 w21 w36 w37 w38 w72 w73 : Value) (f27 : Nat → Option Nat) (f62 : Nat → Int32) (f63 : Nat → Int32) (f76 : Nat → Int32) (f77 : Nat → Int32) (hf28 : f27 1 = some q29) (hf30 : f27 0 = some q31) (hf78 : f63 0 = 0) (hf79 : f62 0 = 0) (hf80 : f63 3 = 0) (hf81 : f63 5 = 0) (hf82 : f63 6 = 0) (hf83 : f63 7 = 0) (hf84 : f63 8 = 0) (hf85 : f63 10 = 0) (hf86 : f63 11 = 0) (hf87 : f63 12 = 0) (hf88 : f63 13 = 0) (hf89 : f63 15 = 0) (hf90 : f63 16 = 0) (hf91 : f63 17 = 0) (hf92 : f63 18 = 0) (hf93 : f63 20 = 0) (hf94 : f63 21 = 0) (hf95 : f63 22 = 0) (hf96 : f63 23 = 0) (hf97 : f63 25 = 0) (hf98 : f63 26 = 0) (hf99 : f63 27 = 0) (hf100 : f63 28 = 0) (hf101 : f63 30 = 0) (hf102 : f63 31 = 0) (hf103 : f63 32 = 0) (hf104 : f63 33 = 0) (hf105 : f63 35 = 0) (hf106 : f63 36 = 0) (hf107 : f63 37 = 0) (hf108 : f63 38 = 0) (h5 : (0 : Int32) ≤ x2) (h6 : x2 ≤ 99) (h7 : (1 : Int32) ≤ x3) (h8 : x3 ≤ 16) (h9 : (1 : Int32) ≤ x4) (h10 : x4 ≤ 9) (sz : Nat) : Met l yX9_addNote [Cond.code yX9_addNote cX9_addNote 5 (some .int)] ({ frames := 6, cells := 0, slots := 0, locals := 174 } : Room) (va_Pc [.ref q1, .int 0, .int x2, .int x3, .int x4] (PX g sz [(q42, .inl (g.2 0, 20, .inl f77)), (q53, .inl (g.2 0, 20, .inl f77)), (q41, .inl (g.2 0, 60, .inl f62)), (q52, .inl (g.2 0, 60, .inl f62)), (q75, .inl (g.2 0, 10, .inl f76)), (q69, .inl (g.2 0, 10, .inl f76)), (q74, .inl (g.2 0, 10, .inl f62)), (q68, .inl (g.2 0, 10, .inl f62)), (q40, .inr (9, [.ref q74, .ref q75, w72, w73])), (q51, .inr (9, [.ref q68, .ref q69, .int 1, .int 0])), (q61, .inl (g.2 0, 40, .inl f63)), (q57, .inl (g.2 0, 40, .inl f63)), (q60, .inl (g.2 0, 384, .inl f62)), (q56, .inl (g.2 0, 384, .inl f62)), (q39, .inr (5, [.ref q60, .ref q61])), (q50, .inr (5, [.ref q56, .ref q57])), (q31, .inr (8, [.ref q50, .ref q51, .ref q52, .ref q53, .int 0, .int 4, .int 0])), (q29, .inr (8, [.ref q39, .ref q40, .ref q41, .ref q42, w36, w37, w38])), (q26, .inl (g.2 3, 10, .inr (.inr (.inr (.inr f27))))), (q22, .inr (10, [.ref q26, .int 0, .int 0])), (q1, .inr (11, [.ref q22, w12, w13, w14, w15, w16, w17, w18, w19, w20, w21]))])) (QI g [(q42, .inl (g.2 0, 20, .inl f77)), (q53, .inl (g.2 0, 20, .inl f77)), (q41, .inl (g.2 0, 60, .inl f62)), (q52, .inl (g.2 0, 60, .inl f62)), (q75, .inl (g.2 0, 10, .inl f76)), (q69, .inl (g.2 0, 10, .inl f76)), (q74, .inl (g.2 0, 10, .inl f62)), (q68, .inl (g.2 0, 10, .inl f62)), (q40, .inr (9, [.ref q74, .ref q75, w72, w73])), (q51, .inr (9, [.ref q68, .ref q69, .int 1, .int 0])), (q61, .inl (g.2 0, 40, .inl f63)), (q57, .inl (g.2 0, 40, .inl f63)), (q60, .inl (g.2 0, 384, .inl f62)), (q56, .inl (g.2 0, 384, .inl f62)), (q39, .inr (5, [.ref q60, .ref q61])), (q50, .inr (5, [.ref q56, .ref q57])), (q31, .inr (8, [.ref q50, .ref q51, .ref q52, .ref q53, .int 0, .int 4, .int 0])), (q29, .inr (8, [.ref q39, .ref q40, .ref q41, .ref q42, w36, w37, w38])), (q26, .inl (g.2 3, 10, .inr (.inr (.inr (.inr f27))))), (q22, .inr (10, [.ref q26, .int 0, .int 0])), (q1, .inr (11, [.ref q22, w12, w13, w14, w15, w16, w17, w18, w19, w20, w21]))] sz 1 (fun _ => [(q26, .inl (g.2 3, 10, .inr (.inr (.inr (.inr f27))))), (q31, .inr (8, [.ref q50, .ref q51, .ref q52, .ref q53, .int 0, .int 4, .int 0])), (q50, .inr (5, [.ref q56, .ref q57])), (q56, .inl (g.2 0, 384, .inl f62)), (q57, .inl (g.2 0, 40, .inl f63)), (q40, .inr (9, [.ref q74, .ref q75, .int 1, .int 0])), (q51, .inr (9, [.ref q68, .ref q69, .int 1, .int 0])), (q74, .inl (g.2 0, 10, .inl f62)), (q68, .inl (g.2 0, 10, .inl f62)), (q75, .inl (g.2 0, 10, .inl f76)), (q69, .inl (g.2 0, 10, .inl f76)), (q41, .inl (g.2 0, 60, .inl f62)), (q52, .inl (g.2 0, 60, .inl f62)), (q42, .inl (g.2 0, 20, .inl f77)), (q53, .inl (g.2 0, 20, .inl f77)), (q60, .inl (g.2 0, 384, .inl (upd (upd (upd f62 1 x2) 2 x3) 3 x4))), (q29, .inr (8, [.ref q39, .ref q40, .ref q41, .ref q42, .int 0, .int 4, .int 0])), (q22, .inr (10, [.ref q26, .int 1, .int 1])), (q1, .inr (11, [.ref q22, w12, w13, w14, w15, w16, w17, w18, .int 0, .int 0, w21])), (q61, .inl (g.2 0, 40, .inl (upd (upd (upd (upd (upd (upd (upd (upd (upd (upd (upd f63 0 1) 1 x3) 2 1) 4 1) 9 1) 14 1) 19 1) 24 1) 29 1) 34 1) 39 1))), (q39, .inr (5, [.ref q60, .ref q61]))])) 0 0 (va_A [(q42, .inl (g.2 0, 20, .inl f77)), (q53, .inl (g.2 0, 20, .inl f77)), (q41, .inl (g.2 0, 60, .inl f62)), (q52, .inl (g.2 0, 60, .inl f62)), (q75, .inl (g.2 0, 10, .inl f76)), (q69, .inl (g.2 0, 10, .inl f76)), (q74, .inl (g.2 0, 10, .inl f62)), (q68, .inl (g.2 0, 10, .inl f62)), (q40, .inr (9, [.ref q74, .ref q75, w72, w73])), (q51, .inr (9, [.ref q68, .ref q69, .int 1, .int 0])), (q61, .inl (g.2 0, 40, .inl f63)), (q57, .inl (g.2 0, 40, .inl f63)), (q60, .inl (g.2 0, 384, .inl f62)), (q56, .inl (g.2 0, 384, .inl f62)), (q39, .inr (5, [.ref q60, .ref q61])), (q50, .inr (5, [.ref q56, .ref q57])), (q31, .inr (8, [.ref q50, .ref q51, .ref q52, .ref q53, .int 0, .int 4, .int 0])), (q29, .inr (8, [.ref q39, .ref q40, .ref q41, .ref q42, w36, w37, w38])), (q26, .inl (g.2 3, 10, .inr (.inr (.inr (.inr f27))))), (q22, .inr (10, [.ref q26, .int 0, .int 0])), (q1, .inr (11, [.ref q22, w12, w13, w14, w15, w16, w17, w18, w19, w20, w21]))] sz) := by
  refine ofN (by decide) (Nat.le_of_ble_eq_true rfl) rfl ?_
  intro p e s m args below meth c A ls hAe hsz hx hb hml hr hlocks hin hown hE hP hD hA hS hl
  have hown : s.vm.findClass RX9 = some m.cls := hown
  refine lv_iload_n hx hb dX9_addNote_0 rfl (lv_at hl 1 rfl) ?_
  refine g0_v (rS (rest := []) hx hb hml hown hE hP hD (c89_X9_requirePattern l g 0 (by decide) (by decide) s.heap.size) (kS_X9_requirePattern hE (e617 hE) rfl rfl ⟨(Nat.le_of_ble_eq_true rfl), (Nat.le_of_ble_eq_true rfl)⟩) [] rfl (by decide) rfl hl.1 rfl (lv_room (Nat.le_of_ble_eq_true rfl)) dX9_addNote_1 ⟨(Nat.le_of_ble_eq_true rfl), (Nat.le_of_ble_eq_true rfl)⟩) hP hD hS hA (fun u9 H locs hP hS => ?_)
  refine lv_iload_n hx hb dX9_addNote_4 rfl (lv_at hl 2 rfl) ?_
  refine lv_iconst (v := 0) hx hb dX9_addNote_5 (by decide) ?_
  refine lv_bipush (v := 99) hx hb dX9_addNote_6 (by decide) ?_
  refine g0_v (rS (rest := []) hx hb hml hown hE hP hD (c99_X9_requireRange l g x2 h5 h6 H.size) (kS_X9_requireRange hE (e636 hE) rfl rfl ⟨(Nat.le_of_ble_eq_true rfl), (Nat.le_of_ble_eq_true rfl)⟩) [] rfl (by decide) rfl hl.1 rfl (lv_room (Nat.le_of_ble_eq_true rfl)) dX9_addNote_8 ⟨(Nat.le_of_ble_eq_true rfl), (Nat.le_of_ble_eq_true rfl)⟩) hP hD hS hA (fun u9 H locs hP hS => ?_)
  refine lv_iload_n hx hb dX9_addNote_11 rfl (lv_at hl 3 rfl) ?_
  refine lv_iconst (v := 1) hx hb dX9_addNote_12 (by decide) ?_
  refine lv_bipush (v := 16) hx hb dX9_addNote_13 (by decide) ?_
  refine g0_v (rS (rest := []) hx hb hml hown hE hP hD (c108_X9_requireRange l g x3 h7 h8 H.size) (kS_X9_requireRange hE (e636 hE) rfl rfl ⟨(Nat.le_of_ble_eq_true rfl), (Nat.le_of_ble_eq_true rfl)⟩) [] rfl (by decide) rfl hl.1 rfl (lv_room (Nat.le_of_ble_eq_true rfl)) dX9_addNote_15 ⟨(Nat.le_of_ble_eq_true rfl), (Nat.le_of_ble_eq_true rfl)⟩) hP hD hS hA (fun u9 H locs hP hS => ?_)
  refine lv_iload hx hb dX9_addNote_18 (lv_at hl 4 rfl) ?_
  refine lv_iconst (v := 1) hx hb dX9_addNote_20 (by decide) ?_
  refine lv_bipush (v := 9) hx hb dX9_addNote_21 (by decide) ?_
  refine g0_v (rS (rest := []) hx hb hml hown hE hP hD (c117_X9_requireRange l g x4 h9 h10 H.size) (kS_X9_requireRange hE (e636 hE) rfl rfl ⟨(Nat.le_of_ble_eq_true rfl), (Nat.le_of_ble_eq_true rfl)⟩) [] rfl (by decide) rfl hl.1 rfl (lv_room (Nat.le_of_ble_eq_true rfl)) dX9_addNote_23 ⟨(Nat.le_of_ble_eq_true rfl), (Nat.le_of_ble_eq_true rfl)⟩) hP hD hS hA (fun u9 H locs hP hS => ?_)
  refine lv_aload_n hx hb dX9_addNote_26 rfl (lv_at hl 0 rfl) ?_
  refine lv_iload_n hx hb dX9_addNote_27 rfl (lv_at hl 1 rfl) ?_
  refine lv_iconst (v := 0) hx hb dX9_addNote_28 (by decide) ?_
  refine lv_iload_n hx hb dX9_addNote_29 rfl (lv_at hl 2 rfl) ?_
  refine lv_iload_n hx hb dX9_addNote_30 rfl (lv_at hl 3 rfl) ?_
  refine lv_iload hx hb dX9_addNote_31 (lv_at hl 4 rfl) ?_
  refine g_i (wr := []) (rV (rest := []) hx hb hml hown hE hP hD 20 rfl rfl (c193_X9_addOneItem l g q1 q22 q26 q29 q31 q39 q40 q41 q42 q50 q51 q52 q53 q56 q57 q60 q61 q68 q69 q74 q75 x2 x3 x4 w12 w13 w14 w15 w16 w17 w18 w19 w20 w21 w36 w37 w38 w72 w73 f27 f62 f63 f76 f77 (hf28) (hf30) (hf78) (hf79) (hf80) (hf81) (hf82) (hf83) (hf84) (hf85) (hf86) (hf87) (hf88) (hf89) (hf90) (hf91) (hf92) (hf93) (hf94) (hf95) (hf96) (hf97) (hf98) (hf99) (hf100) (hf101) (hf102) (hf103) (hf104) (hf105) (hf106) (hf107) (hf108) (i_lele h8 (by decide)) H.size) (kV_X9_addOneItem hE (e655 hE) rfl rfl ⟨(Nat.le_of_ble_eq_true rfl), (Nat.le_of_ble_eq_true rfl)⟩) [0, 1, 2, 3, 4, 5, 6, 7, 8, 9, 10, 11, 12, 13, 14, 15, 16, 17, 18, 19, 20] rfl (by decide) rfl hl.1 rfl (lv_room (Nat.le_of_ble_eq_true rfl)) dX9_addNote_33 ⟨(Nat.le_of_ble_eq_true rfl), (Nat.le_of_ble_eq_true rfl)⟩) hP hD hS hA [0, 1, 2, 3, 4, 5, 6, 7, 8, 9, 10, 11, 12, 13, 14, 15, 16, 17, 18, 19, 20] [] rfl rfl (by decide) (by decide) (fun u5 H locs hP hD hS => ?_)
  have hP : va_P g.1 vwCl [(q26, .inl (g.2 3, 10, .inr (.inr (.inr (.inr f27))))), (q31, .inr (8, [.ref q50, .ref q51, .ref q52, .ref q53, .int 0, .int 4, .int 0])), (q50, .inr (5, [.ref q56, .ref q57])), (q56, .inl (g.2 0, 384, .inl f62)), (q57, .inl (g.2 0, 40, .inl f63)), (q40, .inr (9, [.ref q74, .ref q75, .int 1, .int 0])), (q51, .inr (9, [.ref q68, .ref q69, .int 1, .int 0])), (q74, .inl (g.2 0, 10, .inl f62)), (q68, .inl (g.2 0, 10, .inl f62)), (q75, .inl (g.2 0, 10, .inl f76)), (q69, .inl (g.2 0, 10, .inl f76)), (q41, .inl (g.2 0, 60, .inl f62)), (q52, .inl (g.2 0, 60, .inl f62)), (q42, .inl (g.2 0, 20, .inl f77)), (q53, .inl (g.2 0, 20, .inl f77)), (q60, .inl (g.2 0, 384, .inl (upd (upd (upd f62 1 x2) 2 x3) 3 x4))), (q29, .inr (8, [.ref q39, .ref q40, .ref q41, .ref q42, .int 0, .int 4, .int 0])), (q22, .inr (10, [.ref q26, .int 1, .int 1])), (q1, .inr (11, [.ref q22, w12, w13, w14, w15, w16, w17, w18, .int 0, .int 0, w21])), (q61, .inl (g.2 0, 40, .inl (upd (upd (upd (upd (upd (upd (upd (upd (upd (upd (upd f63 0 1) 1 x3) 2 1) 4 1) 9 1) 14 1) 19 1) 24 1) 29 1) 34 1) 39 1))), (q39, .inr (5, [.ref q60, .ref q61]))] H := hP
  have hD : va_D A [(q26, .inl (g.2 3, 10, .inr (.inr (.inr (.inr f27))))), (q31, .inr (8, [.ref q50, .ref q51, .ref q52, .ref q53, .int 0, .int 4, .int 0])), (q50, .inr (5, [.ref q56, .ref q57])), (q56, .inl (g.2 0, 384, .inl f62)), (q57, .inl (g.2 0, 40, .inl f63)), (q40, .inr (9, [.ref q74, .ref q75, .int 1, .int 0])), (q51, .inr (9, [.ref q68, .ref q69, .int 1, .int 0])), (q74, .inl (g.2 0, 10, .inl f62)), (q68, .inl (g.2 0, 10, .inl f62)), (q75, .inl (g.2 0, 10, .inl f76)), (q69, .inl (g.2 0, 10, .inl f76)), (q41, .inl (g.2 0, 60, .inl f62)), (q52, .inl (g.2 0, 60, .inl f62)), (q42, .inl (g.2 0, 20, .inl f77)), (q53, .inl (g.2 0, 20, .inl f77)), (q60, .inl (g.2 0, 384, .inl (upd (upd (upd f62 1 x2) 2 x3) 3 x4))), (q29, .inr (8, [.ref q39, .ref q40, .ref q41, .ref q42, .int 0, .int 4, .int 0])), (q22, .inr (10, [.ref q26, .int 1, .int 1])), (q1, .inr (11, [.ref q22, w12, w13, w14, w15, w16, w17, w18, .int 0, .int 0, w21])), (q61, .inl (g.2 0, 40, .inl (upd (upd (upd (upd (upd (upd (upd (upd (upd (upd (upd f63 0 1) 1 x3) 2 1) 4 1) 9 1) 14 1) 19 1) 24 1) 29 1) 34 1) 39 1))), (q39, .inr (5, [.ref q60, .ref q61]))] := hD
  exact x_zret hx hb hr rfl rfl hlocks hP hD hS hAe hsz (Nat.le_of_ble_eq_true rfl) (Nat.le_of_ble_eq_true rfl) (fun _ => 0) [0, 1, 2, 3, 4, 5, 6, 7, 8, 9, 10, 11, 12, 13, 14, 15, 16, 17, 18, 19, 20] (by decide) rfl dX9_addNote_36

set_option maxHeartbeats 4000000 in
set_option maxRecDepth 100000 in
theorem c195_L_addNote (l : Launch) (g : gG) (hlx : l.stackTraces = false) (q1 q5 q23 q27 q30 q32 q40 q41 q42 q43 q51 q52 q53 q54 q57 q58 q61 q62 q69 q70 q75 q76 : Nat) (x2 x3 x4 : Int32) (w13 w14 w15 w16 w17 w18 w19 w20 w21 w22 w37 w38 w39 w73 w74 : Value) (f28 : Nat → Option Nat) (f63 : Nat → Int32) (f64 : Nat → Int32) (f77 : Nat → Int32) (f78 : Nat → Int32) (f110 : Nat → Int64) (hf29 : f28 1 = some q30) (hf31 : f28 0 = some q32) (hf79 : f64 0 = 0) (hf80 : f63 0 = 0) (hf81 : f64 3 = 0) (hf82 : f64 5 = 0) (hf83 : f64 6 = 0) (hf84 : f64 7 = 0) (hf85 : f64 8 = 0) (hf86 : f64 10 = 0) (hf87 : f64 11 = 0) (hf88 : f64 12 = 0) (hf89 : f64 13 = 0) (hf90 : f64 15 = 0) (hf91 : f64 16 = 0) (hf92 : f64 17 = 0) (hf93 : f64 18 = 0) (hf94 : f64 20 = 0) (hf95 : f64 21 = 0) (hf96 : f64 22 = 0) (hf97 : f64 23 = 0) (hf98 : f64 25 = 0) (hf99 : f64 26 = 0) (hf100 : f64 27 = 0) (hf101 : f64 28 = 0) (hf102 : f64 30 = 0) (hf103 : f64 31 = 0) (hf104 : f64 32 = 0) (hf105 : f64 33 = 0) (hf106 : f64 35 = 0) (hf107 : f64 36 = 0) (hf108 : f64 37 = 0) (hf109 : f64 38 = 0) (h6 : (0 : Int32) ≤ x2) (h7 : x2 ≤ 99) (h8 : (1 : Int32) ≤ x3) (h9 : x3 ≤ 16) (h10 : (1 : Int32) ≤ x4) (h11 : x4 ≤ 9) (sz : Nat) : Met l yL_addNote [Cond.codeWith yL_addNote cL_addNote 7 (some .int) [(0, 14, 17, 13), (0, 14, 21, 15), (0, 14, 25, 17)]] ({ frames := 7, cells := 0, slots := 0, locals := 198 } : Room) (va_Pc [.ref q1, .int 0, .int x2, .int x3, .int x4, .ref q5] (PZ g sz [(q5, .inl (g.2 1, 1, .inr (.inl f110))), (q43, .inl (g.2 0, 20, .inl f78)), (q54, .inl (g.2 0, 20, .inl f78)), (q42, .inl (g.2 0, 60, .inl f63)), (q53, .inl (g.2 0, 60, .inl f63)), (q76, .inl (g.2 0, 10, .inl f77)), (q70, .inl (g.2 0, 10, .inl f77)), (q75, .inl (g.2 0, 10, .inl f63)), (q69, .inl (g.2 0, 10, .inl f63)), (q41, .inr (9, [.ref q75, .ref q76, w73, w74])), (q52, .inr (9, [.ref q69, .ref q70, .int 1, .int 0])), (q62, .inl (g.2 0, 40, .inl f64)), (q58, .inl (g.2 0, 40, .inl f64)), (q61, .inl (g.2 0, 384, .inl f63)), (q57, .inl (g.2 0, 384, .inl f63)), (q40, .inr (5, [.ref q61, .ref q62])), (q51, .inr (5, [.ref q57, .ref q58])), (q32, .inr (8, [.ref q51, .ref q52, .ref q53, .ref q54, .int 0, .int 4, .int 0])), (q30, .inr (8, [.ref q40, .ref q41, .ref q42, .ref q43, w37, w38, w39])), (q27, .inl (g.2 3, 10, .inr (.inr (.inr (.inr f28))))), (q23, .inr (10, [.ref q27, .int 0, .int 0])), (q1, .inr (11, [.ref q23, w13, w14, w15, w16, w17, w18, w19, w20, w21, w22]))])) (QI g [(q5, .inl (g.2 1, 1, .inr (.inl f110))), (q43, .inl (g.2 0, 20, .inl f78)), (q54, .inl (g.2 0, 20, .inl f78)), (q42, .inl (g.2 0, 60, .inl f63)), (q53, .inl (g.2 0, 60, .inl f63)), (q76, .inl (g.2 0, 10, .inl f77)), (q70, .inl (g.2 0, 10, .inl f77)), (q75, .inl (g.2 0, 10, .inl f63)), (q69, .inl (g.2 0, 10, .inl f63)), (q41, .inr (9, [.ref q75, .ref q76, w73, w74])), (q52, .inr (9, [.ref q69, .ref q70, .int 1, .int 0])), (q62, .inl (g.2 0, 40, .inl f64)), (q58, .inl (g.2 0, 40, .inl f64)), (q61, .inl (g.2 0, 384, .inl f63)), (q57, .inl (g.2 0, 384, .inl f63)), (q40, .inr (5, [.ref q61, .ref q62])), (q51, .inr (5, [.ref q57, .ref q58])), (q32, .inr (8, [.ref q51, .ref q52, .ref q53, .ref q54, .int 0, .int 4, .int 0])), (q30, .inr (8, [.ref q40, .ref q41, .ref q42, .ref q43, w37, w38, w39])), (q27, .inl (g.2 3, 10, .inr (.inr (.inr (.inr f28))))), (q23, .inr (10, [.ref q27, .int 0, .int 0])), (q1, .inr (11, [.ref q23, w13, w14, w15, w16, w17, w18, w19, w20, w21, w22]))] sz 0 (fun _ => [(q5, .inl (g.2 1, 1, .inr (.inl (vp_updL f110 0 1))))])) 0 0 (va_A [(q5, .inl (g.2 1, 1, .inr (.inl f110))), (q43, .inl (g.2 0, 20, .inl f78)), (q54, .inl (g.2 0, 20, .inl f78)), (q42, .inl (g.2 0, 60, .inl f63)), (q53, .inl (g.2 0, 60, .inl f63)), (q76, .inl (g.2 0, 10, .inl f77)), (q70, .inl (g.2 0, 10, .inl f77)), (q75, .inl (g.2 0, 10, .inl f63)), (q69, .inl (g.2 0, 10, .inl f63)), (q41, .inr (9, [.ref q75, .ref q76, w73, w74])), (q52, .inr (9, [.ref q69, .ref q70, .int 1, .int 0])), (q62, .inl (g.2 0, 40, .inl f64)), (q58, .inl (g.2 0, 40, .inl f64)), (q61, .inl (g.2 0, 384, .inl f63)), (q57, .inl (g.2 0, 384, .inl f63)), (q40, .inr (5, [.ref q61, .ref q62])), (q51, .inr (5, [.ref q57, .ref q58])), (q32, .inr (8, [.ref q51, .ref q52, .ref q53, .ref q54, .int 0, .int 4, .int 0])), (q30, .inr (8, [.ref q40, .ref q41, .ref q42, .ref q43, w37, w38, w39])), (q27, .inl (g.2 3, 10, .inr (.inr (.inr (.inr f28))))), (q23, .inr (10, [.ref q27, .int 0, .int 0])), (q1, .inr (11, [.ref q23, w13, w14, w15, w16, w17, w18, w19, w20, w21, w22]))] sz) := by
  refine ofH (by decide) (Nat.le_of_ble_eq_true rfl) rfl ?_
  intro p e s m args below meth c A ls hAe hsz hx hb hml hr hlocks hin hown hE hP hD hA hS hl htb hz
  have hown : s.vm.findClass RL = some m.cls := hown
  refine lv_aload hx hb dL_addNote_0 (lv_at hl 5 rfl) ?_
  refine lv_iconst (v := 0) hx hb dL_addNote_2 (by decide) ?_
  refine lv_aload_n hx hb dL_addNote_3 rfl (lv_at hl 0 rfl) ?_
  refine lv_iload_n hx hb dL_addNote_4 rfl (lv_at hl 1 rfl) ?_
  refine lv_iload_n hx hb dL_addNote_5 rfl (lv_at hl 2 rfl) ?_
  refine lv_iload_n hx hb dL_addNote_6 rfl (lv_at hl 3 rfl) ?_
  refine lv_iload hx hb dL_addNote_7 (lv_at hl 4 rfl) ?_
  refine g_i (wr := [(q5, .inl (g.2 1, 1, .inr (.inl f110)))]) (rV (rest := [.int 0, .ref q5]) hx hb hml hown hE hP hD 21 rfl rfl (c194_X9_addNote l g q1 q23 q27 q30 q32 q40 q41 q42 q43 q51 q52 q53 q54 q57 q58 q61 q62 q69 q70 q75 q76 x2 x3 x4 w13 w14 w15 w16 w17 w18 w19 w20 w21 w22 w37 w38 w39 w73 w74 f28 f63 f64 f77 f78 (hf29) (hf31) (hf79) (hf80) (hf81) (hf82) (hf83) (hf84) (hf85) (hf86) (hf87) (hf88) (hf89) (hf90) (hf91) (hf92) (hf93) (hf94) (hf95) (hf96) (hf97) (hf98) (hf99) (hf100) (hf101) (hf102) (hf103) (hf104) (hf105) (hf106) (hf107) (hf108) (hf109) h6 h7 h8 h9 h10 h11 s.heap.size) (kV_X9_addNote hE (e613 hE) rfl rfl ⟨(Nat.le_of_ble_eq_true rfl), (Nat.le_of_ble_eq_true rfl)⟩) [1, 2, 3, 4, 5, 6, 7, 8, 9, 10, 11, 12, 13, 14, 15, 16, 17, 18, 19, 20, 21] rfl (by decide) rfl hl.1 rfl (lv_room (Nat.le_of_ble_eq_true rfl)) dL_addNote_9 ⟨(Nat.le_of_ble_eq_true rfl), (Nat.le_of_ble_eq_true rfl)⟩) hP hD hS hA [1, 2, 3, 4, 5, 6, 7, 8, 9, 10, 11, 12, 13, 14, 15, 16, 17, 18, 19, 20, 21] [0] rfl rfl (by decide) (by decide) (fun u1 H locs hP hD hS => ?_)
  have hP : va_P g.1 vwCl [(q5, .inl (g.2 1, 1, .inr (.inl f110))), (q27, .inl (g.2 3, 10, .inr (.inr (.inr (.inr f28))))), (q32, .inr (8, [.ref q51, .ref q52, .ref q53, .ref q54, .int 0, .int 4, .int 0])), (q51, .inr (5, [.ref q57, .ref q58])), (q57, .inl (g.2 0, 384, .inl f63)), (q58, .inl (g.2 0, 40, .inl f64)), (q41, .inr (9, [.ref q75, .ref q76, .int 1, .int 0])), (q52, .inr (9, [.ref q69, .ref q70, .int 1, .int 0])), (q75, .inl (g.2 0, 10, .inl f63)), (q69, .inl (g.2 0, 10, .inl f63)), (q76, .inl (g.2 0, 10, .inl f77)), (q70, .inl (g.2 0, 10, .inl f77)), (q42, .inl (g.2 0, 60, .inl f63)), (q53, .inl (g.2 0, 60, .inl f63)), (q43, .inl (g.2 0, 20, .inl f78)), (q54, .inl (g.2 0, 20, .inl f78)), (q61, .inl (g.2 0, 384, .inl (upd (upd (upd f63 1 x2) 2 x3) 3 x4))), (q30, .inr (8, [.ref q40, .ref q41, .ref q42, .ref q43, .int 0, .int 4, .int 0])), (q23, .inr (10, [.ref q27, .int 1, .int 1])), (q1, .inr (11, [.ref q23, w13, w14, w15, w16, w17, w18, w19, .int 0, .int 0, w22])), (q62, .inl (g.2 0, 40, .inl (upd (upd (upd (upd (upd (upd (upd (upd (upd (upd (upd f64 0 1) 1 x3) 2 1) 4 1) 9 1) 14 1) 19 1) 24 1) 29 1) 34 1) 39 1))), (q40, .inr (5, [.ref q61, .ref q62]))] H := hP
  have hD : va_D A [(q5, .inl (g.2 1, 1, .inr (.inl f110))), (q27, .inl (g.2 3, 10, .inr (.inr (.inr (.inr f28))))), (q32, .inr (8, [.ref q51, .ref q52, .ref q53, .ref q54, .int 0, .int 4, .int 0])), (q51, .inr (5, [.ref q57, .ref q58])), (q57, .inl (g.2 0, 384, .inl f63)), (q58, .inl (g.2 0, 40, .inl f64)), (q41, .inr (9, [.ref q75, .ref q76, .int 1, .int 0])), (q52, .inr (9, [.ref q69, .ref q70, .int 1, .int 0])), (q75, .inl (g.2 0, 10, .inl f63)), (q69, .inl (g.2 0, 10, .inl f63)), (q76, .inl (g.2 0, 10, .inl f77)), (q70, .inl (g.2 0, 10, .inl f77)), (q42, .inl (g.2 0, 60, .inl f63)), (q53, .inl (g.2 0, 60, .inl f63)), (q43, .inl (g.2 0, 20, .inl f78)), (q54, .inl (g.2 0, 20, .inl f78)), (q61, .inl (g.2 0, 384, .inl (upd (upd (upd f63 1 x2) 2 x3) 3 x4))), (q30, .inr (8, [.ref q40, .ref q41, .ref q42, .ref q43, .int 0, .int 4, .int 0])), (q23, .inr (10, [.ref q27, .int 1, .int 1])), (q1, .inr (11, [.ref q23, w13, w14, w15, w16, w17, w18, w19, .int 0, .int 0, w22])), (q62, .inl (g.2 0, 40, .inl (upd (upd (upd (upd (upd (upd (upd (upd (upd (upd (upd f64 0 1) 1 x3) 2 1) 4 1) 9 1) 14 1) 19 1) 24 1) 29 1) 34 1) 39 1))), (q40, .inr (5, [.ref q61, .ref q62]))] := hD
  refine lv_i2l (v := 1) hx hb dL_addNote_12 (by decide) ?_
  refine x_last (ws' := [(q5, .inl (g.2 1, 1, .inr (.inl (vp_updL f110 0 1)))), (q27, .inl (g.2 3, 10, .inr (.inr (.inr (.inr f28))))), (q32, .inr (8, [.ref q51, .ref q52, .ref q53, .ref q54, .int 0, .int 4, .int 0])), (q51, .inr (5, [.ref q57, .ref q58])), (q57, .inl (g.2 0, 384, .inl f63)), (q58, .inl (g.2 0, 40, .inl f64)), (q41, .inr (9, [.ref q75, .ref q76, .int 1, .int 0])), (q52, .inr (9, [.ref q69, .ref q70, .int 1, .int 0])), (q75, .inl (g.2 0, 10, .inl f63)), (q69, .inl (g.2 0, 10, .inl f63)), (q76, .inl (g.2 0, 10, .inl f77)), (q70, .inl (g.2 0, 10, .inl f77)), (q42, .inl (g.2 0, 60, .inl f63)), (q53, .inl (g.2 0, 60, .inl f63)), (q43, .inl (g.2 0, 20, .inl f78)), (q54, .inl (g.2 0, 20, .inl f78)), (q61, .inl (g.2 0, 384, .inl (upd (upd (upd f63 1 x2) 2 x3) 3 x4))), (q30, .inr (8, [.ref q40, .ref q41, .ref q42, .ref q43, .int 0, .int 4, .int 0])), (q23, .inr (10, [.ref q27, .int 1, .int 1])), (q1, .inr (11, [.ref q23, w13, w14, w15, w16, w17, w18, w19, .int 0, .int 0, w22])), (q62, .inl (g.2 0, 40, .inl (upd (upd (upd (upd (upd (upd (upd (upd (upd (upd (upd f64 0 1) 1 x3) 2 1) 4 1) 9 1) 14 1) 19 1) 24 1) 29 1) 34 1) 39 1))), (q40, .inr (5, [.ref q61, .ref q62]))]) hx hb hE hP hD hS 0 rfl 0 (x_in (by decide)) (by decide) dL_addNote_13 rfl (fun H locs hP hD hS => ?_)
  refine lv_goto (tgt := 29) hx hb dL_addNote_14 (by decide) ?_
  refine lv_iconst (v := 0) hx hb dL_addNote_29 (by decide) ?_
  exact x_zret hx hb hr rfl rfl hlocks hP hD hS hAe hsz (Nat.le_of_ble_eq_true rfl) (Nat.le_of_ble_eq_true rfl) (fun _ => 0) [0] (by decide) rfl dL_addNote_30

set_option maxHeartbeats 4000000 in
set_option maxRecDepth 100000 in
theorem c196_X10_in (l : Launch) (g : gG) (x1 : Int32) (h2 : (1 : Int32) ≤ x1) (h3 : x1 ≤ 9) (sz : Nat) : Met l yX10_in [Cond.code yX10_in cX10_in 3 (some .boolean)] ({ frames := 0, cells := 0, slots := 0, locals := 0 } : Room) (va_Pc [.int x1, .int 1, .int 9] (PX g sz [])) (QI g [] sz 1 (fun _ => [])) 0 0 (va_A [] sz) := by
  refine ofN (by decide) (Nat.le_of_ble_eq_true rfl) rfl ?_
  intro p e s m args below meth c A ls hAe hsz hx hb hml hr hlocks hin hown hE hP hD hA hS hl
  have hown : s.vm.findClass RX10 = some m.cls := hown
  refine lv_iload_n hx hb dX10_in_0 rfl (lv_at hl 0 rfl) ?_
  refine lv_iload_n hx hb dX10_in_1 rfl (lv_at hl 1 rfl) ?_
  refine lv_icmp_lt (tgt := 14) hx hb dX10_in_2 (by decide) (fun h => absurd h (i_nlt h2)) (fun _ => ?_)
  refine lv_iload_n hx hb dX10_in_5 rfl (lv_at hl 0 rfl) ?_
  refine lv_iload_n hx hb dX10_in_6 rfl (lv_at hl 2 rfl) ?_
  refine lv_icmp_gt (tgt := 14) hx hb dX10_in_7 (by decide) (fun h => absurd h (i_nlt h3)) (fun _ => ?_)
  refine lv_iconst (v := 1) hx hb dX10_in_10 (by decide) ?_
  refine lv_goto (tgt := 15) hx hb dX10_in_11 (by decide) ?_
  exact x_zret hx hb hr rfl rfl hlocks hP hD hS hAe hsz (Nat.le_of_ble_eq_true rfl) (Nat.le_of_ble_eq_true rfl) (fun _ => 0) [] (by decide) rfl dX10_in_15

set_option maxHeartbeats 4000000 in
set_option maxRecDepth 100000 in
theorem c197_X10_isRanged (l : Launch) (g : gG) (x1 x2 x3 : Int32) (h4 : (0 : Int32) ≤ x1) (h5 : x1 ≤ 99) (h6 : (1 : Int32) ≤ x2) (h7 : x2 ≤ 16) (h8 : (1 : Int32) ≤ x3) (h9 : x3 ≤ 9) (sz : Nat) : Met l yX10_isRanged [Cond.code yX10_isRanged cX10_isRanged 5 (some .boolean)] ({ frames := 1, cells := 0, slots := 0, locals := 22 } : Room) (va_Pc [.int 0, .int 0, .int x1, .int x2, .int x3] (PX g sz [])) (QI g [] sz 1 (fun _ => [])) 0 0 (va_A [] sz) := by
  refine ofN (by decide) (Nat.le_of_ble_eq_true rfl) rfl ?_
  intro p e s m args below meth c A ls hAe hsz hx hb hml hr hlocks hin hown hE hP hD hA hS hl
  have hown : s.vm.findClass RX10 = some m.cls := hown
  refine lv_iload_n hx hb dX10_isRanged_0 rfl (lv_at hl 1 rfl) ?_
  refine lv_if_ne (tgt := 43) hx hb dX10_isRanged_1 (by decide) (fun h => absurd h (by decide)) (fun _ => ?_)
  refine lv_iload_n hx hb dX10_isRanged_4 rfl (lv_at hl 2 rfl) ?_
  refine lv_iconst (v := 0) hx hb dX10_isRanged_5 (by decide) ?_
  refine lv_bipush (v := 99) hx hb dX10_isRanged_6 (by decide) ?_
  refine g0_i (rS (rest := []) hx hb hml hown hE hP hD (c103_X10_in l g x1 h4 h5 s.heap.size) (kS_X10_in hE (e1431 hE) rfl rfl ⟨(Nat.le_of_ble_eq_true rfl), (Nat.le_of_ble_eq_true rfl)⟩) [] rfl (by decide) rfl hl.1 rfl (lv_room (Nat.le_of_ble_eq_true rfl)) dX10_isRanged_8 ⟨(Nat.le_of_ble_eq_true rfl), (Nat.le_of_ble_eq_true rfl)⟩) hP hD hS hA (fun u9 H locs hP hS => ?_)
  refine lv_if_eq (tgt := 39) hx hb dX10_isRanged_11 (by decide) (fun h => absurd h (by decide)) (fun _ => ?_)
  refine lv_iload_n hx hb dX10_isRanged_14 rfl (lv_at hl 3 rfl) ?_
  refine lv_iconst (v := 1) hx hb dX10_isRanged_15 (by decide) ?_
  refine lv_bipush (v := 16) hx hb dX10_isRanged_16 (by decide) ?_
  refine g0_i (rS (rest := []) hx hb hml hown hE hP hD (c112_X10_in l g x2 h6 h7 H.size) (kS_X10_in hE (e1431 hE) rfl rfl ⟨(Nat.le_of_ble_eq_true rfl), (Nat.le_of_ble_eq_true rfl)⟩) [] rfl (by decide) rfl hl.1 rfl (lv_room (Nat.le_of_ble_eq_true rfl)) dX10_isRanged_18 ⟨(Nat.le_of_ble_eq_true rfl), (Nat.le_of_ble_eq_true rfl)⟩) hP hD hS hA (fun u9 H locs hP hS => ?_)
  refine lv_if_eq (tgt := 39) hx hb dX10_isRanged_21 (by decide) (fun h => absurd h (by decide)) (fun _ => ?_)
  refine lv_iload hx hb dX10_isRanged_24 (lv_at hl 4 rfl) ?_
  refine lv_iconst (v := 1) hx hb dX10_isRanged_26 (by decide) ?_
  refine lv_bipush (v := 9) hx hb dX10_isRanged_27 (by decide) ?_
  refine g0_i (rS (rest := []) hx hb hml hown hE hP hD (c196_X10_in l g x3 h8 h9 H.size) (kS_X10_in hE (e1431 hE) rfl rfl ⟨(Nat.le_of_ble_eq_true rfl), (Nat.le_of_ble_eq_true rfl)⟩) [] rfl (by decide) rfl hl.1 rfl (lv_room (Nat.le_of_ble_eq_true rfl)) dX10_isRanged_29 ⟨(Nat.le_of_ble_eq_true rfl), (Nat.le_of_ble_eq_true rfl)⟩) hP hD hS hA (fun u9 H locs hP hS => ?_)
  refine lv_if_eq (tgt := 39) hx hb dX10_isRanged_32 (by decide) (fun h => absurd h (by decide)) (fun _ => ?_)
  refine lv_iconst (v := 1) hx hb dX10_isRanged_35 (by decide) ?_
  refine lv_goto (tgt := 84) hx hb dX10_isRanged_36 (by decide) ?_
  exact x_zret hx hb hr rfl rfl hlocks hP hD hS hAe hsz (Nat.le_of_ble_eq_true rfl) (Nat.le_of_ble_eq_true rfl) (fun _ => 0) [] (by decide) rfl dX10_isRanged_84

set_option maxHeartbeats 4000000 in
set_option maxRecDepth 100000 in
theorem c198_X10_putAside (l : Launch) (g : gG) (q1 q39 q40 : Nat) (w3 w5 w6 w7 w8 w9 w10 w11 w12 w13 w14 w15 w16 w17 w18 w19 w20 w21 w22 w23 w24 w25 w26 w27 w28 w29 w30 w31 w32 w33 w34 w35 w36 w37 w38 : Value) (f41 : Nat → Int32) (f42 : Nat → Int32) (sz : Nat) : Met l yX10_putAside [Cond.code yX10_putAside cX10_putAside 2 none] ({ frames := 0, cells := 0, slots := 0, locals := 0 } : Room) (va_Pc [.ref q1] (PX g sz [(q39, .inl (g.2 0, 497, .inl f42)), (q40, .inl (g.2 0, 497, .inl f41)), (q1, .inr (12, [.ref q40, w3, .ref q39, w5, w6, w7, w8, w9, w10, w11, w12, w13, w14, w15, w16, w17, w18, w19, w20, w21, w22, w23, w24, w25, w26, w27, w28, w29, w30, w31, w32, w33, w34, w35, w36, w37, w38]))])) (QV g [(q39, .inl (g.2 0, 497, .inl f42)), (q40, .inl (g.2 0, 497, .inl f41)), (q1, .inr (12, [.ref q40, w3, .ref q39, w5, w6, w7, w8, w9, w10, w11, w12, w13, w14, w15, w16, w17, w18, w19, w20, w21, w22, w23, w24, w25, w26, w27, w28, w29, w30, w31, w32, w33, w34, w35, w36, w37, w38]))] sz (fun _ => [(q39, .inl (g.2 0, 497, .inl (cpF 497 f41 f42))), (q40, .inl (g.2 0, 497, .inl f41)), (q1, .inr (12, [.ref q40, w3, .ref q39, w5, w6, w7, w8, w9, w10, w11, w12, w13, w14, w15, w16, w17, w18, w19, w20, w21, w22, w23, w24, w25, w26, w27, w28, w29, w30, w31, w32, w33, w34, w35, w36, w37, w38]))])) 0 0 (va_A [(q39, .inl (g.2 0, 497, .inl f42)), (q40, .inl (g.2 0, 497, .inl f41)), (q1, .inr (12, [.ref q40, w3, .ref q39, w5, w6, w7, w8, w9, w10, w11, w12, w13, w14, w15, w16, w17, w18, w19, w20, w21, w22, w23, w24, w25, w26, w27, w28, w29, w30, w31, w32, w33, w34, w35, w36, w37, w38]))] sz) := by
  refine ofN (by decide) (Nat.le_of_ble_eq_true rfl) rfl ?_
  intro p e s m args below meth c A ls hAe hsz hx hb hml hr hlocks hin hown hE hP hD hA hS hl
  have hown : s.vm.findClass RX10 = some m.cls := hown
  refine lv_iconst (v := 0) hx hb dX10_putAside_0 (by decide) ?_
  refine lv_istore_n (lv' := [(1, .int 0), (0, .ref q1)]) hx hb dX10_putAside_1 rfl hl (by decide) rfl (fun ls hl => ?_)
  refine x_loop (N := 497) (fun i H locs ls => va_P g.1 vwCl [(q39, .inl (g.2 0, 497, .inl (cpF i f41 f42))), (q40, .inl (g.2 0, 497, .inl f41)), (q1, .inr (12, [.ref q40, w3, .ref q39, w5, w6, w7, w8, w9, w10, w11, w12, w13, w14, w15, w16, w17, w18, w19, w20, w21, w22, w23, w24, w25, w26, w27, w28, w29, w30, w31, w32, w33, w34, w35, w36, w37, w38]))] H ∧ va_D A [(q39, .inl (g.2 0, 497, .inl (cpF i f41 f42))), (q40, .inl (g.2 0, 497, .inl f41)), (q1, .inr (12, [.ref q40, w3, .ref q39, w5, w6, w7, w8, w9, w10, w11, w12, w13, w14, w15, w16, w17, w18, w19, w20, w21, w22, w23, w24, w25, w26, w27, w28, w29, w30, w31, w32, w33, w34, w35, w36, w37, w38]))] ∧ va_S A s.heap H locs ∧ lv_has ls 2 [(1, .int (nI i)), (0, .ref q1)]) ⟨by rw [cpF_0]; exact hP, by rw [cpF_0]; exact hD, hS, by rw [nI_0]; exact hl⟩ (by
    intro i hi ih H locs ls hI
    obtain ⟨hP, hD, hS, hl⟩ := hI
    have hlp : nI i < 497 := nI_lt hi (by decide)
    refine lv_iload_n hx hb dX10_putAside_2 rfl (lv_at hl 0 rfl) ?_
    refine lv_sipush (v := 497) hx hb dX10_putAside_3 (by decide) ?_
    refine lv_icmp_ge (tgt := 27) hx hb dX10_putAside_6 (by decide) (fun h => absurd h (i_nle hlp)) (fun _ => ?_)
    refine lv_aload_n hx hb dX10_putAside_9 rfl (lv_at hl 1 rfl) ?_
    refine gf_RX10_16 hx hb hown hE hP 2 rfl rfl dX10_putAside_10 ?_
    refine lv_iload_n hx hb dX10_putAside_13 rfl (lv_at hl 0 rfl) ?_
    refine lv_aload_n hx hb dX10_putAside_14 rfl (lv_at hl 1 rfl) ?_
    refine gf_RX10_9 hx hb hown hE hP 2 rfl rfl dX10_putAside_15 ?_
    refine lv_iload_n hx hb dX10_putAside_18 rfl (lv_at hl 0 rfl) ?_
    refine x_iald (v := (f41 i)) hx hb hE hP 1 rfl i (vp_in_nI (by omega) (by decide)) (nI_clamp (by omega)) rfl dX10_putAside_19 ?_
    refine x_iast (ws' := [(q39, .inl (g.2 0, 497, .inl (cpF (i + 1) f41 f42))), (q40, .inl (g.2 0, 497, .inl f41)), (q1, .inr (12, [.ref q40, w3, .ref q39, w5, w6, w7, w8, w9, w10, w11, w12, w13, w14, w15, w16, w17, w18, w19, w20, w21, w22, w23, w24, w25, w26, w27, w28, w29, w30, w31, w32, w33, w34, w35, w36, w37, w38]))]) hx hb hE hP hD hS 0 rfl i (vp_in_nI (by omega) (by decide)) (nI_clamp (by omega)) dX10_putAside_20 (by rw [← cpF_s]; rfl) (fun H locs hP hD hS => ?_)
    refine lv_iinc (v := (nI (i + 1))) (lv' := [(1, .int (nI (i + 1))), (0, .ref q1)]) hx hb dX10_putAside_21 hl (k := 0) rfl (by rw [← nI_1]; rfl) (by decide) rfl (fun ls hl => ?_)
    refine lv_goto (tgt := 2) hx hb dX10_putAside_24 (by decide) ?_
    exact ih _ _ _ ⟨hP, hD, hS, lv_sub hl [0, 1] rfl⟩) (fun H locs ls hI => ?_)
  obtain ⟨hP, hD, hS, hl⟩ := hI
  have hP : va_P g.1 vwCl [(q39, .inl (g.2 0, 497, .inl (cpF 497 f41 f42))), (q40, .inl (g.2 0, 497, .inl f41)), (q1, .inr (12, [.ref q40, w3, .ref q39, w5, w6, w7, w8, w9, w10, w11, w12, w13, w14, w15, w16, w17, w18, w19, w20, w21, w22, w23, w24, w25, w26, w27, w28, w29, w30, w31, w32, w33, w34, w35, w36, w37, w38]))] H := hP
  have hD : va_D A [(q39, .inl (g.2 0, 497, .inl (cpF 497 f41 f42))), (q40, .inl (g.2 0, 497, .inl f41)), (q1, .inr (12, [.ref q40, w3, .ref q39, w5, w6, w7, w8, w9, w10, w11, w12, w13, w14, w15, w16, w17, w18, w19, w20, w21, w22, w23, w24, w25, w26, w27, w28, w29, w30, w31, w32, w33, w34, w35, w36, w37, w38]))] := hD
  have hl : lv_has ls 2 [(1, .int 497), (0, .ref q1)] := hl
  refine lv_iload_n hx hb dX10_putAside_2 rfl (lv_at hl 0 rfl) ?_
  refine lv_sipush (v := 497) hx hb dX10_putAside_3 (by decide) ?_
  refine lv_icmp_ge (tgt := 27) hx hb dX10_putAside_6 (by decide) (fun _ => ?_) (fun h => absurd (by decide) h)
  exact x_vret hx hb hr hlocks hP hD hS hAe hsz (Nat.le_of_ble_eq_true rfl) (Nat.le_of_ble_eq_true rfl) (fun _ => 0) [0, 1, 2] (by decide) rfl dX10_putAside_27

set_option maxHeartbeats 4000000 in
set_option maxRecDepth 100000 in
theorem c199_X10_itemsAt (l : Launch) (g : gG) (sz : Nat) : Met l yX10_itemsAt [Cond.code yX10_itemsAt cX10_itemsAt 1 (some .int)] ({ frames := 0, cells := 0, slots := 0, locals := 0 } : Room) (va_Pc [.int 0] (PX g sz [])) (QI g [] sz 0 (fun _ => [])) 0 0 (va_A [] sz) := by
  refine ofN (by decide) (Nat.le_of_ble_eq_true rfl) rfl ?_
  intro p e s m args below meth c A ls hAe hsz hx hb hml hr hlocks hin hown hE hP hD hA hS hl
  have hown : s.vm.findClass RX10 = some m.cls := hown
  refine lv_iconst (v := 0) hx hb dX10_itemsAt_0 (by decide) ?_
  refine lv_bipush (v := 49) hx hb dX10_itemsAt_1 (by decide) ?_
  refine lv_iload_n hx hb dX10_itemsAt_3 rfl (lv_at hl 0 rfl) ?_
  refine x_imul (v := 0) hx hb dX10_itemsAt_4 (by decide) ?_
  refine x_iadd (v := 0) hx hb dX10_itemsAt_5 (by decide) ?_
  exact x_zret hx hb hr rfl rfl hlocks hP hD hS hAe hsz (Nat.le_of_ble_eq_true rfl) (Nat.le_of_ble_eq_true rfl) (fun _ => 0) [] (by decide) rfl dX10_itemsAt_6

set_option maxHeartbeats 4000000 in
set_option maxRecDepth 100000 in
theorem c200_X10_many (l : Launch) (g : gG) (q1 q39 : Nat) (w3 w4 w5 w6 w7 w8 w9 w10 w11 w12 w13 w14 w15 w16 w17 w18 w19 w20 w21 w22 w23 w24 w25 w26 w27 w28 w29 w30 w31 w32 w33 w34 w35 w36 w37 w38 : Value) (f40 : Nat → Int32) (hf41 : f40 0 = 1) (sz : Nat) : Met l yX10_many [Cond.code yX10_many cX10_many 2 (some .int)] ({ frames := 1, cells := 0, slots := 0, locals := 20 } : Room) (va_Pc [.ref q1, .int 0] (PX g sz [(q39, .inl (g.2 0, 497, .inl f40)), (q1, .inr (12, [.ref q39, w3, w4, w5, w6, w7, w8, w9, w10, w11, w12, w13, w14, w15, w16, w17, w18, w19, w20, w21, w22, w23, w24, w25, w26, w27, w28, w29, w30, w31, w32, w33, w34, w35, w36, w37, w38]))])) (QI g [(q39, .inl (g.2 0, 497, .inl f40)), (q1, .inr (12, [.ref q39, w3, w4, w5, w6, w7, w8, w9, w10, w11, w12, w13, w14, w15, w16, w17, w18, w19, w20, w21, w22, w23, w24, w25, w26, w27, w28, w29, w30, w31, w32, w33, w34, w35, w36, w37, w38]))] sz 1 (fun _ => [(q39, .inl (g.2 0, 497, .inl f40)), (q1, .inr (12, [.ref q39, w3, w4, w5, w6, w7, w8, w9, w10, w11, w12, w13, w14, w15, w16, w17, w18, w19, w20, w21, w22, w23, w24, w25, w26, w27, w28, w29, w30, w31, w32, w33, w34, w35, w36, w37, w38]))])) 0 0 (va_A [(q39, .inl (g.2 0, 497, .inl f40)), (q1, .inr (12, [.ref q39, w3, w4, w5, w6, w7, w8, w9, w10, w11, w12, w13, w14, w15, w16, w17, w18, w19, w20, w21, w22, w23, w24, w25, w26, w27, w28, w29, w30, w31, w32, w33, w34, w35, w36, w37, w38]))] sz) := by
  refine ofN (by decide) (Nat.le_of_ble_eq_true rfl) rfl ?_
  intro p e s m args below meth c A ls hAe hsz hx hb hml hr hlocks hin hown hE hP hD hA hS hl
  have hown : s.vm.findClass RX10 = some m.cls := hown
  refine lv_aload_n hx hb dX10_many_0 rfl (lv_at hl 0 rfl) ?_
  refine gf_RX10_9 hx hb hown hE hP 1 rfl rfl dX10_many_1 ?_
  refine lv_iload_n hx hb dX10_many_4 rfl (lv_at hl 1 rfl) ?_
  refine g0_i (rS (rest := [.ref q39]) hx hb hml hown hE hP hD (c199_X10_itemsAt l g s.heap.size) (kS_X10_itemsAt hE (e1445 hE) rfl rfl ⟨(Nat.le_of_ble_eq_true rfl), (Nat.le_of_ble_eq_true rfl)⟩) [] rfl (by decide) rfl hl.1 rfl (lv_room (Nat.le_of_ble_eq_true rfl)) dX10_many_5 ⟨(Nat.le_of_ble_eq_true rfl), (Nat.le_of_ble_eq_true rfl)⟩) hP hD hS hA (fun u9 H locs hP hS => ?_)
  refine x_iald (v := 1) hx hb hE hP 0 rfl 0 (x_in (by decide)) (by decide) hf41 dX10_many_8 ?_
  exact x_zret hx hb hr rfl rfl hlocks hP hD hS hAe hsz (Nat.le_of_ble_eq_true rfl) (Nat.le_of_ble_eq_true rfl) (fun _ => 0) [0, 1] (by decide) rfl dX10_many_9

set_option maxHeartbeats 4000000 in
set_option maxRecDepth 100000 in
theorem c201_X10_of (l : Launch) (g : gG) (q1 q39 : Nat) (w3 w4 w5 w6 w7 w8 w9 w10 w11 w12 w13 w14 w15 w16 w17 w18 w19 w20 w21 w22 w23 w24 w25 w26 w27 w28 w29 w30 w31 w32 w33 w34 w35 w36 w37 w38 : Value) (f40 : Nat → Int32) (hf41 : f40 1 = 0) (sz : Nat) : Met l yX10_of [Cond.code yX10_of cX10_of 4 (some .int)] ({ frames := 1, cells := 0, slots := 0, locals := 20 } : Room) (va_Pc [.ref q1, .int 0, .int 0, .int 0] (PX g sz [(q39, .inl (g.2 0, 497, .inl f40)), (q1, .inr (12, [.ref q39, w3, w4, w5, w6, w7, w8, w9, w10, w11, w12, w13, w14, w15, w16, w17, w18, w19, w20, w21, w22, w23, w24, w25, w26, w27, w28, w29, w30, w31, w32, w33, w34, w35, w36, w37, w38]))])) (QI g [(q39, .inl (g.2 0, 497, .inl f40)), (q1, .inr (12, [.ref q39, w3, w4, w5, w6, w7, w8, w9, w10, w11, w12, w13, w14, w15, w16, w17, w18, w19, w20, w21, w22, w23, w24, w25, w26, w27, w28, w29, w30, w31, w32, w33, w34, w35, w36, w37, w38]))] sz 0 (fun _ => [(q39, .inl (g.2 0, 497, .inl f40)), (q1, .inr (12, [.ref q39, w3, w4, w5, w6, w7, w8, w9, w10, w11, w12, w13, w14, w15, w16, w17, w18, w19, w20, w21, w22, w23, w24, w25, w26, w27, w28, w29, w30, w31, w32, w33, w34, w35, w36, w37, w38]))])) 0 0 (va_A [(q39, .inl (g.2 0, 497, .inl f40)), (q1, .inr (12, [.ref q39, w3, w4, w5, w6, w7, w8, w9, w10, w11, w12, w13, w14, w15, w16, w17, w18, w19, w20, w21, w22, w23, w24, w25, w26, w27, w28, w29, w30, w31, w32, w33, w34, w35, w36, w37, w38]))] sz) := by
  refine ofN (by decide) (Nat.le_of_ble_eq_true rfl) rfl ?_
  intro p e s m args below meth c A ls hAe hsz hx hb hml hr hlocks hin hown hE hP hD hA hS hl
  have hown : s.vm.findClass RX10 = some m.cls := hown
  refine lv_aload_n hx hb dX10_of_0 rfl (lv_at hl 0 rfl) ?_
  refine gf_RX10_9 hx hb hown hE hP 1 rfl rfl dX10_of_1 ?_
  refine lv_iload_n hx hb dX10_of_4 rfl (lv_at hl 1 rfl) ?_
  refine g0_i (rS (rest := [.ref q39]) hx hb hml hown hE hP hD (c199_X10_itemsAt l g s.heap.size) (kS_X10_itemsAt hE (e1445 hE) rfl rfl ⟨(Nat.le_of_ble_eq_true rfl), (Nat.le_of_ble_eq_true rfl)⟩) [] rfl (by decide) rfl hl.1 rfl (lv_room (Nat.le_of_ble_eq_true rfl)) dX10_of_5 ⟨(Nat.le_of_ble_eq_true rfl), (Nat.le_of_ble_eq_true rfl)⟩) hP hD hS hA (fun u9 H locs hP hS => ?_)
  refine lv_iconst (v := 1) hx hb dX10_of_8 (by decide) ?_
  refine x_iadd (v := 1) hx hb dX10_of_9 (by decide) ?_
  refine lv_iconst (v := 4) hx hb dX10_of_10 (by decide) ?_
  refine lv_iload_n hx hb dX10_of_11 rfl (lv_at hl 2 rfl) ?_
  refine x_imul (v := 0) hx hb dX10_of_12 (by decide) ?_
  refine x_iadd (v := 1) hx hb dX10_of_13 (by decide) ?_
  refine lv_iload_n hx hb dX10_of_14 rfl (lv_at hl 3 rfl) ?_
  refine x_iadd (v := 1) hx hb dX10_of_15 (by decide) ?_
  refine x_iald (v := 0) hx hb hE hP 0 rfl 1 (x_in (by decide)) (by decide) hf41 dX10_of_16 ?_
  exact x_zret hx hb hr rfl rfl hlocks hP hD hS hAe hsz (Nat.le_of_ble_eq_true rfl) (Nat.le_of_ble_eq_true rfl) (fun _ => 0) [0, 1] (by decide) rfl dX10_of_17

set_option maxHeartbeats 4000000 in
set_option maxRecDepth 100000 in
theorem c202_X10_of (l : Launch) (g : gG) (q1 q39 : Nat) (x42 : Int32) (w3 w4 w5 w6 w7 w8 w9 w10 w11 w12 w13 w14 w15 w16 w17 w18 w19 w20 w21 w22 w23 w24 w25 w26 w27 w28 w29 w30 w31 w32 w33 w34 w35 w36 w37 w38 : Value) (f40 : Nat → Int32) (hf41 : f40 3 = x42) (sz : Nat) : Met l yX10_of [Cond.code yX10_of cX10_of 4 (some .int)] ({ frames := 1, cells := 0, slots := 0, locals := 20 } : Room) (va_Pc [.ref q1, .int 0, .int 0, .int 2] (PX g sz [(q39, .inl (g.2 0, 497, .inl f40)), (q1, .inr (12, [.ref q39, w3, w4, w5, w6, w7, w8, w9, w10, w11, w12, w13, w14, w15, w16, w17, w18, w19, w20, w21, w22, w23, w24, w25, w26, w27, w28, w29, w30, w31, w32, w33, w34, w35, w36, w37, w38]))])) (QI g [(q39, .inl (g.2 0, 497, .inl f40)), (q1, .inr (12, [.ref q39, w3, w4, w5, w6, w7, w8, w9, w10, w11, w12, w13, w14, w15, w16, w17, w18, w19, w20, w21, w22, w23, w24, w25, w26, w27, w28, w29, w30, w31, w32, w33, w34, w35, w36, w37, w38]))] sz x42 (fun _ => [(q39, .inl (g.2 0, 497, .inl f40)), (q1, .inr (12, [.ref q39, w3, w4, w5, w6, w7, w8, w9, w10, w11, w12, w13, w14, w15, w16, w17, w18, w19, w20, w21, w22, w23, w24, w25, w26, w27, w28, w29, w30, w31, w32, w33, w34, w35, w36, w37, w38]))])) 0 0 (va_A [(q39, .inl (g.2 0, 497, .inl f40)), (q1, .inr (12, [.ref q39, w3, w4, w5, w6, w7, w8, w9, w10, w11, w12, w13, w14, w15, w16, w17, w18, w19, w20, w21, w22, w23, w24, w25, w26, w27, w28, w29, w30, w31, w32, w33, w34, w35, w36, w37, w38]))] sz) := by
  refine ofN (by decide) (Nat.le_of_ble_eq_true rfl) rfl ?_
  intro p e s m args below meth c A ls hAe hsz hx hb hml hr hlocks hin hown hE hP hD hA hS hl
  have hown : s.vm.findClass RX10 = some m.cls := hown
  refine lv_aload_n hx hb dX10_of_0 rfl (lv_at hl 0 rfl) ?_
  refine gf_RX10_9 hx hb hown hE hP 1 rfl rfl dX10_of_1 ?_
  refine lv_iload_n hx hb dX10_of_4 rfl (lv_at hl 1 rfl) ?_
  refine g0_i (rS (rest := [.ref q39]) hx hb hml hown hE hP hD (c199_X10_itemsAt l g s.heap.size) (kS_X10_itemsAt hE (e1445 hE) rfl rfl ⟨(Nat.le_of_ble_eq_true rfl), (Nat.le_of_ble_eq_true rfl)⟩) [] rfl (by decide) rfl hl.1 rfl (lv_room (Nat.le_of_ble_eq_true rfl)) dX10_of_5 ⟨(Nat.le_of_ble_eq_true rfl), (Nat.le_of_ble_eq_true rfl)⟩) hP hD hS hA (fun u9 H locs hP hS => ?_)
  refine lv_iconst (v := 1) hx hb dX10_of_8 (by decide) ?_
  refine x_iadd (v := 1) hx hb dX10_of_9 (by decide) ?_
  refine lv_iconst (v := 4) hx hb dX10_of_10 (by decide) ?_
  refine lv_iload_n hx hb dX10_of_11 rfl (lv_at hl 2 rfl) ?_
  refine x_imul (v := 0) hx hb dX10_of_12 (by decide) ?_
  refine x_iadd (v := 1) hx hb dX10_of_13 (by decide) ?_
  refine lv_iload_n hx hb dX10_of_14 rfl (lv_at hl 3 rfl) ?_
  refine x_iadd (v := 3) hx hb dX10_of_15 (by decide) ?_
  refine x_iald (v := x42) hx hb hE hP 0 rfl 3 (x_in (by decide)) (by decide) hf41 dX10_of_16 ?_
  exact x_zret hx hb hr rfl rfl hlocks hP hD hS hAe hsz (Nat.le_of_ble_eq_true rfl) (Nat.le_of_ble_eq_true rfl) (fun _ => 0) [0, 1] (by decide) rfl dX10_of_17

set_option maxHeartbeats 4000000 in
set_option maxRecDepth 100000 in
theorem c203_X10_itemsAt (l : Launch) (g : gG) (sz : Nat) : Met l yX10_itemsAt [Cond.code yX10_itemsAt cX10_itemsAt 1 (some .int)] ({ frames := 0, cells := 0, slots := 0, locals := 0 } : Room) (va_Pc [.int 1] (PX g sz [])) (QI g [] sz 49 (fun _ => [])) 0 0 (va_A [] sz) := by
  refine ofN (by decide) (Nat.le_of_ble_eq_true rfl) rfl ?_
  intro p e s m args below meth c A ls hAe hsz hx hb hml hr hlocks hin hown hE hP hD hA hS hl
  have hown : s.vm.findClass RX10 = some m.cls := hown
  refine lv_iconst (v := 0) hx hb dX10_itemsAt_0 (by decide) ?_
  refine lv_bipush (v := 49) hx hb dX10_itemsAt_1 (by decide) ?_
  refine lv_iload_n hx hb dX10_itemsAt_3 rfl (lv_at hl 0 rfl) ?_
  refine x_imul (v := 49) hx hb dX10_itemsAt_4 (by decide) ?_
  refine x_iadd (v := 49) hx hb dX10_itemsAt_5 (by decide) ?_
  exact x_zret hx hb hr rfl rfl hlocks hP hD hS hAe hsz (Nat.le_of_ble_eq_true rfl) (Nat.le_of_ble_eq_true rfl) (fun _ => 0) [] (by decide) rfl dX10_itemsAt_6

set_option maxHeartbeats 4000000 in
set_option maxRecDepth 100000 in
theorem c204_X10_many (l : Launch) (g : gG) (q1 q39 : Nat) (w3 w4 w5 w6 w7 w8 w9 w10 w11 w12 w13 w14 w15 w16 w17 w18 w19 w20 w21 w22 w23 w24 w25 w26 w27 w28 w29 w30 w31 w32 w33 w34 w35 w36 w37 w38 : Value) (f40 : Nat → Int32) (hf41 : f40 49 = 0) (sz : Nat) : Met l yX10_many [Cond.code yX10_many cX10_many 2 (some .int)] ({ frames := 1, cells := 0, slots := 0, locals := 20 } : Room) (va_Pc [.ref q1, .int 1] (PX g sz [(q39, .inl (g.2 0, 497, .inl f40)), (q1, .inr (12, [.ref q39, w3, w4, w5, w6, w7, w8, w9, w10, w11, w12, w13, w14, w15, w16, w17, w18, w19, w20, w21, w22, w23, w24, w25, w26, w27, w28, w29, w30, w31, w32, w33, w34, w35, w36, w37, w38]))])) (QI g [(q39, .inl (g.2 0, 497, .inl f40)), (q1, .inr (12, [.ref q39, w3, w4, w5, w6, w7, w8, w9, w10, w11, w12, w13, w14, w15, w16, w17, w18, w19, w20, w21, w22, w23, w24, w25, w26, w27, w28, w29, w30, w31, w32, w33, w34, w35, w36, w37, w38]))] sz 0 (fun _ => [(q39, .inl (g.2 0, 497, .inl f40)), (q1, .inr (12, [.ref q39, w3, w4, w5, w6, w7, w8, w9, w10, w11, w12, w13, w14, w15, w16, w17, w18, w19, w20, w21, w22, w23, w24, w25, w26, w27, w28, w29, w30, w31, w32, w33, w34, w35, w36, w37, w38]))])) 0 0 (va_A [(q39, .inl (g.2 0, 497, .inl f40)), (q1, .inr (12, [.ref q39, w3, w4, w5, w6, w7, w8, w9, w10, w11, w12, w13, w14, w15, w16, w17, w18, w19, w20, w21, w22, w23, w24, w25, w26, w27, w28, w29, w30, w31, w32, w33, w34, w35, w36, w37, w38]))] sz) := by
  refine ofN (by decide) (Nat.le_of_ble_eq_true rfl) rfl ?_
  intro p e s m args below meth c A ls hAe hsz hx hb hml hr hlocks hin hown hE hP hD hA hS hl
  have hown : s.vm.findClass RX10 = some m.cls := hown
  refine lv_aload_n hx hb dX10_many_0 rfl (lv_at hl 0 rfl) ?_
  refine gf_RX10_9 hx hb hown hE hP 1 rfl rfl dX10_many_1 ?_
  refine lv_iload_n hx hb dX10_many_4 rfl (lv_at hl 1 rfl) ?_
  refine g0_i (rS (rest := [.ref q39]) hx hb hml hown hE hP hD (c203_X10_itemsAt l g s.heap.size) (kS_X10_itemsAt hE (e1445 hE) rfl rfl ⟨(Nat.le_of_ble_eq_true rfl), (Nat.le_of_ble_eq_true rfl)⟩) [] rfl (by decide) rfl hl.1 rfl (lv_room (Nat.le_of_ble_eq_true rfl)) dX10_many_5 ⟨(Nat.le_of_ble_eq_true rfl), (Nat.le_of_ble_eq_true rfl)⟩) hP hD hS hA (fun u9 H locs hP hS => ?_)
  refine x_iald (v := 0) hx hb hE hP 0 rfl 49 (x_in (by decide)) (by decide) hf41 dX10_many_8 ?_
  exact x_zret hx hb hr rfl rfl hlocks hP hD hS hAe hsz (Nat.le_of_ble_eq_true rfl) (Nat.le_of_ble_eq_true rfl) (fun _ => 0) [0, 1] (by decide) rfl dX10_many_9

set_option maxHeartbeats 4000000 in
set_option maxRecDepth 100000 in
theorem c205_X10_itemsAt (l : Launch) (g : gG) (sz : Nat) : Met l yX10_itemsAt [Cond.code yX10_itemsAt cX10_itemsAt 1 (some .int)] ({ frames := 0, cells := 0, slots := 0, locals := 0 } : Room) (va_Pc [.int 2] (PX g sz [])) (QI g [] sz 98 (fun _ => [])) 0 0 (va_A [] sz) := by
  refine ofN (by decide) (Nat.le_of_ble_eq_true rfl) rfl ?_
  intro p e s m args below meth c A ls hAe hsz hx hb hml hr hlocks hin hown hE hP hD hA hS hl
  have hown : s.vm.findClass RX10 = some m.cls := hown
  refine lv_iconst (v := 0) hx hb dX10_itemsAt_0 (by decide) ?_
  refine lv_bipush (v := 49) hx hb dX10_itemsAt_1 (by decide) ?_
  refine lv_iload_n hx hb dX10_itemsAt_3 rfl (lv_at hl 0 rfl) ?_
  refine x_imul (v := 98) hx hb dX10_itemsAt_4 (by decide) ?_
  refine x_iadd (v := 98) hx hb dX10_itemsAt_5 (by decide) ?_
  exact x_zret hx hb hr rfl rfl hlocks hP hD hS hAe hsz (Nat.le_of_ble_eq_true rfl) (Nat.le_of_ble_eq_true rfl) (fun _ => 0) [] (by decide) rfl dX10_itemsAt_6

set_option maxHeartbeats 4000000 in
set_option maxRecDepth 100000 in
theorem c206_X10_many (l : Launch) (g : gG) (q1 q39 : Nat) (w3 w4 w5 w6 w7 w8 w9 w10 w11 w12 w13 w14 w15 w16 w17 w18 w19 w20 w21 w22 w23 w24 w25 w26 w27 w28 w29 w30 w31 w32 w33 w34 w35 w36 w37 w38 : Value) (f40 : Nat → Int32) (hf41 : f40 98 = 0) (sz : Nat) : Met l yX10_many [Cond.code yX10_many cX10_many 2 (some .int)] ({ frames := 1, cells := 0, slots := 0, locals := 20 } : Room) (va_Pc [.ref q1, .int 2] (PX g sz [(q39, .inl (g.2 0, 497, .inl f40)), (q1, .inr (12, [.ref q39, w3, w4, w5, w6, w7, w8, w9, w10, w11, w12, w13, w14, w15, w16, w17, w18, w19, w20, w21, w22, w23, w24, w25, w26, w27, w28, w29, w30, w31, w32, w33, w34, w35, w36, w37, w38]))])) (QI g [(q39, .inl (g.2 0, 497, .inl f40)), (q1, .inr (12, [.ref q39, w3, w4, w5, w6, w7, w8, w9, w10, w11, w12, w13, w14, w15, w16, w17, w18, w19, w20, w21, w22, w23, w24, w25, w26, w27, w28, w29, w30, w31, w32, w33, w34, w35, w36, w37, w38]))] sz 0 (fun _ => [(q39, .inl (g.2 0, 497, .inl f40)), (q1, .inr (12, [.ref q39, w3, w4, w5, w6, w7, w8, w9, w10, w11, w12, w13, w14, w15, w16, w17, w18, w19, w20, w21, w22, w23, w24, w25, w26, w27, w28, w29, w30, w31, w32, w33, w34, w35, w36, w37, w38]))])) 0 0 (va_A [(q39, .inl (g.2 0, 497, .inl f40)), (q1, .inr (12, [.ref q39, w3, w4, w5, w6, w7, w8, w9, w10, w11, w12, w13, w14, w15, w16, w17, w18, w19, w20, w21, w22, w23, w24, w25, w26, w27, w28, w29, w30, w31, w32, w33, w34, w35, w36, w37, w38]))] sz) := by
  refine ofN (by decide) (Nat.le_of_ble_eq_true rfl) rfl ?_
  intro p e s m args below meth c A ls hAe hsz hx hb hml hr hlocks hin hown hE hP hD hA hS hl
  have hown : s.vm.findClass RX10 = some m.cls := hown
  refine lv_aload_n hx hb dX10_many_0 rfl (lv_at hl 0 rfl) ?_
  refine gf_RX10_9 hx hb hown hE hP 1 rfl rfl dX10_many_1 ?_
  refine lv_iload_n hx hb dX10_many_4 rfl (lv_at hl 1 rfl) ?_
  refine g0_i (rS (rest := [.ref q39]) hx hb hml hown hE hP hD (c205_X10_itemsAt l g s.heap.size) (kS_X10_itemsAt hE (e1445 hE) rfl rfl ⟨(Nat.le_of_ble_eq_true rfl), (Nat.le_of_ble_eq_true rfl)⟩) [] rfl (by decide) rfl hl.1 rfl (lv_room (Nat.le_of_ble_eq_true rfl)) dX10_many_5 ⟨(Nat.le_of_ble_eq_true rfl), (Nat.le_of_ble_eq_true rfl)⟩) hP hD hS hA (fun u9 H locs hP hS => ?_)
  refine x_iald (v := 0) hx hb hE hP 0 rfl 98 (x_in (by decide)) (by decide) hf41 dX10_many_8 ?_
  exact x_zret hx hb hr rfl rfl hlocks hP hD hS hAe hsz (Nat.le_of_ble_eq_true rfl) (Nat.le_of_ble_eq_true rfl) (fun _ => 0) [0, 1] (by decide) rfl dX10_many_9

set_option maxHeartbeats 4000000 in
set_option maxRecDepth 100000 in
theorem c207_X10_itemsAt (l : Launch) (g : gG) (sz : Nat) : Met l yX10_itemsAt [Cond.code yX10_itemsAt cX10_itemsAt 1 (some .int)] ({ frames := 0, cells := 0, slots := 0, locals := 0 } : Room) (va_Pc [.int 3] (PX g sz [])) (QI g [] sz 147 (fun _ => [])) 0 0 (va_A [] sz) := by
  refine ofN (by decide) (Nat.le_of_ble_eq_true rfl) rfl ?_
  intro p e s m args below meth c A ls hAe hsz hx hb hml hr hlocks hin hown hE hP hD hA hS hl
  have hown : s.vm.findClass RX10 = some m.cls := hown
  refine lv_iconst (v := 0) hx hb dX10_itemsAt_0 (by decide) ?_
  refine lv_bipush (v := 49) hx hb dX10_itemsAt_1 (by decide) ?_
  refine lv_iload_n hx hb dX10_itemsAt_3 rfl (lv_at hl 0 rfl) ?_
  refine x_imul (v := 147) hx hb dX10_itemsAt_4 (by decide) ?_
  refine x_iadd (v := 147) hx hb dX10_itemsAt_5 (by decide) ?_
  exact x_zret hx hb hr rfl rfl hlocks hP hD hS hAe hsz (Nat.le_of_ble_eq_true rfl) (Nat.le_of_ble_eq_true rfl) (fun _ => 0) [] (by decide) rfl dX10_itemsAt_6

set_option maxHeartbeats 4000000 in
set_option maxRecDepth 100000 in
theorem c208_X10_many (l : Launch) (g : gG) (q1 q39 : Nat) (w3 w4 w5 w6 w7 w8 w9 w10 w11 w12 w13 w14 w15 w16 w17 w18 w19 w20 w21 w22 w23 w24 w25 w26 w27 w28 w29 w30 w31 w32 w33 w34 w35 w36 w37 w38 : Value) (f40 : Nat → Int32) (hf41 : f40 147 = 0) (sz : Nat) : Met l yX10_many [Cond.code yX10_many cX10_many 2 (some .int)] ({ frames := 1, cells := 0, slots := 0, locals := 20 } : Room) (va_Pc [.ref q1, .int 3] (PX g sz [(q39, .inl (g.2 0, 497, .inl f40)), (q1, .inr (12, [.ref q39, w3, w4, w5, w6, w7, w8, w9, w10, w11, w12, w13, w14, w15, w16, w17, w18, w19, w20, w21, w22, w23, w24, w25, w26, w27, w28, w29, w30, w31, w32, w33, w34, w35, w36, w37, w38]))])) (QI g [(q39, .inl (g.2 0, 497, .inl f40)), (q1, .inr (12, [.ref q39, w3, w4, w5, w6, w7, w8, w9, w10, w11, w12, w13, w14, w15, w16, w17, w18, w19, w20, w21, w22, w23, w24, w25, w26, w27, w28, w29, w30, w31, w32, w33, w34, w35, w36, w37, w38]))] sz 0 (fun _ => [(q39, .inl (g.2 0, 497, .inl f40)), (q1, .inr (12, [.ref q39, w3, w4, w5, w6, w7, w8, w9, w10, w11, w12, w13, w14, w15, w16, w17, w18, w19, w20, w21, w22, w23, w24, w25, w26, w27, w28, w29, w30, w31, w32, w33, w34, w35, w36, w37, w38]))])) 0 0 (va_A [(q39, .inl (g.2 0, 497, .inl f40)), (q1, .inr (12, [.ref q39, w3, w4, w5, w6, w7, w8, w9, w10, w11, w12, w13, w14, w15, w16, w17, w18, w19, w20, w21, w22, w23, w24, w25, w26, w27, w28, w29, w30, w31, w32, w33, w34, w35, w36, w37, w38]))] sz) := by
  refine ofN (by decide) (Nat.le_of_ble_eq_true rfl) rfl ?_
  intro p e s m args below meth c A ls hAe hsz hx hb hml hr hlocks hin hown hE hP hD hA hS hl
  have hown : s.vm.findClass RX10 = some m.cls := hown
  refine lv_aload_n hx hb dX10_many_0 rfl (lv_at hl 0 rfl) ?_
  refine gf_RX10_9 hx hb hown hE hP 1 rfl rfl dX10_many_1 ?_
  refine lv_iload_n hx hb dX10_many_4 rfl (lv_at hl 1 rfl) ?_
  refine g0_i (rS (rest := [.ref q39]) hx hb hml hown hE hP hD (c207_X10_itemsAt l g s.heap.size) (kS_X10_itemsAt hE (e1445 hE) rfl rfl ⟨(Nat.le_of_ble_eq_true rfl), (Nat.le_of_ble_eq_true rfl)⟩) [] rfl (by decide) rfl hl.1 rfl (lv_room (Nat.le_of_ble_eq_true rfl)) dX10_many_5 ⟨(Nat.le_of_ble_eq_true rfl), (Nat.le_of_ble_eq_true rfl)⟩) hP hD hS hA (fun u9 H locs hP hS => ?_)
  refine x_iald (v := 0) hx hb hE hP 0 rfl 147 (x_in (by decide)) (by decide) hf41 dX10_many_8 ?_
  exact x_zret hx hb hr rfl rfl hlocks hP hD hS hAe hsz (Nat.le_of_ble_eq_true rfl) (Nat.le_of_ble_eq_true rfl) (fun _ => 0) [0, 1] (by decide) rfl dX10_many_9

set_option maxHeartbeats 4000000 in
set_option maxRecDepth 100000 in
theorem c209_X10_itemsAt (l : Launch) (g : gG) (sz : Nat) : Met l yX10_itemsAt [Cond.code yX10_itemsAt cX10_itemsAt 1 (some .int)] ({ frames := 0, cells := 0, slots := 0, locals := 0 } : Room) (va_Pc [.int 4] (PX g sz [])) (QI g [] sz 196 (fun _ => [])) 0 0 (va_A [] sz) := by
  refine ofN (by decide) (Nat.le_of_ble_eq_true rfl) rfl ?_
  intro p e s m args below meth c A ls hAe hsz hx hb hml hr hlocks hin hown hE hP hD hA hS hl
  have hown : s.vm.findClass RX10 = some m.cls := hown
  refine lv_iconst (v := 0) hx hb dX10_itemsAt_0 (by decide) ?_
  refine lv_bipush (v := 49) hx hb dX10_itemsAt_1 (by decide) ?_
  refine lv_iload_n hx hb dX10_itemsAt_3 rfl (lv_at hl 0 rfl) ?_
  refine x_imul (v := 196) hx hb dX10_itemsAt_4 (by decide) ?_
  refine x_iadd (v := 196) hx hb dX10_itemsAt_5 (by decide) ?_
  exact x_zret hx hb hr rfl rfl hlocks hP hD hS hAe hsz (Nat.le_of_ble_eq_true rfl) (Nat.le_of_ble_eq_true rfl) (fun _ => 0) [] (by decide) rfl dX10_itemsAt_6

set_option maxHeartbeats 4000000 in
set_option maxRecDepth 100000 in
theorem c210_X10_many (l : Launch) (g : gG) (q1 q39 : Nat) (w3 w4 w5 w6 w7 w8 w9 w10 w11 w12 w13 w14 w15 w16 w17 w18 w19 w20 w21 w22 w23 w24 w25 w26 w27 w28 w29 w30 w31 w32 w33 w34 w35 w36 w37 w38 : Value) (f40 : Nat → Int32) (hf41 : f40 196 = 0) (sz : Nat) : Met l yX10_many [Cond.code yX10_many cX10_many 2 (some .int)] ({ frames := 1, cells := 0, slots := 0, locals := 20 } : Room) (va_Pc [.ref q1, .int 4] (PX g sz [(q39, .inl (g.2 0, 497, .inl f40)), (q1, .inr (12, [.ref q39, w3, w4, w5, w6, w7, w8, w9, w10, w11, w12, w13, w14, w15, w16, w17, w18, w19, w20, w21, w22, w23, w24, w25, w26, w27, w28, w29, w30, w31, w32, w33, w34, w35, w36, w37, w38]))])) (QI g [(q39, .inl (g.2 0, 497, .inl f40)), (q1, .inr (12, [.ref q39, w3, w4, w5, w6, w7, w8, w9, w10, w11, w12, w13, w14, w15, w16, w17, w18, w19, w20, w21, w22, w23, w24, w25, w26, w27, w28, w29, w30, w31, w32, w33, w34, w35, w36, w37, w38]))] sz 0 (fun _ => [(q39, .inl (g.2 0, 497, .inl f40)), (q1, .inr (12, [.ref q39, w3, w4, w5, w6, w7, w8, w9, w10, w11, w12, w13, w14, w15, w16, w17, w18, w19, w20, w21, w22, w23, w24, w25, w26, w27, w28, w29, w30, w31, w32, w33, w34, w35, w36, w37, w38]))])) 0 0 (va_A [(q39, .inl (g.2 0, 497, .inl f40)), (q1, .inr (12, [.ref q39, w3, w4, w5, w6, w7, w8, w9, w10, w11, w12, w13, w14, w15, w16, w17, w18, w19, w20, w21, w22, w23, w24, w25, w26, w27, w28, w29, w30, w31, w32, w33, w34, w35, w36, w37, w38]))] sz) := by
  refine ofN (by decide) (Nat.le_of_ble_eq_true rfl) rfl ?_
  intro p e s m args below meth c A ls hAe hsz hx hb hml hr hlocks hin hown hE hP hD hA hS hl
  have hown : s.vm.findClass RX10 = some m.cls := hown
  refine lv_aload_n hx hb dX10_many_0 rfl (lv_at hl 0 rfl) ?_
  refine gf_RX10_9 hx hb hown hE hP 1 rfl rfl dX10_many_1 ?_
  refine lv_iload_n hx hb dX10_many_4 rfl (lv_at hl 1 rfl) ?_
  refine g0_i (rS (rest := [.ref q39]) hx hb hml hown hE hP hD (c209_X10_itemsAt l g s.heap.size) (kS_X10_itemsAt hE (e1445 hE) rfl rfl ⟨(Nat.le_of_ble_eq_true rfl), (Nat.le_of_ble_eq_true rfl)⟩) [] rfl (by decide) rfl hl.1 rfl (lv_room (Nat.le_of_ble_eq_true rfl)) dX10_many_5 ⟨(Nat.le_of_ble_eq_true rfl), (Nat.le_of_ble_eq_true rfl)⟩) hP hD hS hA (fun u9 H locs hP hS => ?_)
  refine x_iald (v := 0) hx hb hE hP 0 rfl 196 (x_in (by decide)) (by decide) hf41 dX10_many_8 ?_
  exact x_zret hx hb hr rfl rfl hlocks hP hD hS hAe hsz (Nat.le_of_ble_eq_true rfl) (Nat.le_of_ble_eq_true rfl) (fun _ => 0) [0, 1] (by decide) rfl dX10_many_9

set_option maxHeartbeats 4000000 in
set_option maxRecDepth 100000 in
theorem c211_X10_itemsAt (l : Launch) (g : gG) (sz : Nat) : Met l yX10_itemsAt [Cond.code yX10_itemsAt cX10_itemsAt 1 (some .int)] ({ frames := 0, cells := 0, slots := 0, locals := 0 } : Room) (va_Pc [.int 5] (PX g sz [])) (QI g [] sz 245 (fun _ => [])) 0 0 (va_A [] sz) := by
  refine ofN (by decide) (Nat.le_of_ble_eq_true rfl) rfl ?_
  intro p e s m args below meth c A ls hAe hsz hx hb hml hr hlocks hin hown hE hP hD hA hS hl
  have hown : s.vm.findClass RX10 = some m.cls := hown
  refine lv_iconst (v := 0) hx hb dX10_itemsAt_0 (by decide) ?_
  refine lv_bipush (v := 49) hx hb dX10_itemsAt_1 (by decide) ?_
  refine lv_iload_n hx hb dX10_itemsAt_3 rfl (lv_at hl 0 rfl) ?_
  refine x_imul (v := 245) hx hb dX10_itemsAt_4 (by decide) ?_
  refine x_iadd (v := 245) hx hb dX10_itemsAt_5 (by decide) ?_
  exact x_zret hx hb hr rfl rfl hlocks hP hD hS hAe hsz (Nat.le_of_ble_eq_true rfl) (Nat.le_of_ble_eq_true rfl) (fun _ => 0) [] (by decide) rfl dX10_itemsAt_6

set_option maxHeartbeats 4000000 in
set_option maxRecDepth 100000 in
theorem c212_X10_many (l : Launch) (g : gG) (q1 q39 : Nat) (w3 w4 w5 w6 w7 w8 w9 w10 w11 w12 w13 w14 w15 w16 w17 w18 w19 w20 w21 w22 w23 w24 w25 w26 w27 w28 w29 w30 w31 w32 w33 w34 w35 w36 w37 w38 : Value) (f40 : Nat → Int32) (hf41 : f40 245 = 0) (sz : Nat) : Met l yX10_many [Cond.code yX10_many cX10_many 2 (some .int)] ({ frames := 1, cells := 0, slots := 0, locals := 20 } : Room) (va_Pc [.ref q1, .int 5] (PX g sz [(q39, .inl (g.2 0, 497, .inl f40)), (q1, .inr (12, [.ref q39, w3, w4, w5, w6, w7, w8, w9, w10, w11, w12, w13, w14, w15, w16, w17, w18, w19, w20, w21, w22, w23, w24, w25, w26, w27, w28, w29, w30, w31, w32, w33, w34, w35, w36, w37, w38]))])) (QI g [(q39, .inl (g.2 0, 497, .inl f40)), (q1, .inr (12, [.ref q39, w3, w4, w5, w6, w7, w8, w9, w10, w11, w12, w13, w14, w15, w16, w17, w18, w19, w20, w21, w22, w23, w24, w25, w26, w27, w28, w29, w30, w31, w32, w33, w34, w35, w36, w37, w38]))] sz 0 (fun _ => [(q39, .inl (g.2 0, 497, .inl f40)), (q1, .inr (12, [.ref q39, w3, w4, w5, w6, w7, w8, w9, w10, w11, w12, w13, w14, w15, w16, w17, w18, w19, w20, w21, w22, w23, w24, w25, w26, w27, w28, w29, w30, w31, w32, w33, w34, w35, w36, w37, w38]))])) 0 0 (va_A [(q39, .inl (g.2 0, 497, .inl f40)), (q1, .inr (12, [.ref q39, w3, w4, w5, w6, w7, w8, w9, w10, w11, w12, w13, w14, w15, w16, w17, w18, w19, w20, w21, w22, w23, w24, w25, w26, w27, w28, w29, w30, w31, w32, w33, w34, w35, w36, w37, w38]))] sz) := by
  refine ofN (by decide) (Nat.le_of_ble_eq_true rfl) rfl ?_
  intro p e s m args below meth c A ls hAe hsz hx hb hml hr hlocks hin hown hE hP hD hA hS hl
  have hown : s.vm.findClass RX10 = some m.cls := hown
  refine lv_aload_n hx hb dX10_many_0 rfl (lv_at hl 0 rfl) ?_
  refine gf_RX10_9 hx hb hown hE hP 1 rfl rfl dX10_many_1 ?_
  refine lv_iload_n hx hb dX10_many_4 rfl (lv_at hl 1 rfl) ?_
  refine g0_i (rS (rest := [.ref q39]) hx hb hml hown hE hP hD (c211_X10_itemsAt l g s.heap.size) (kS_X10_itemsAt hE (e1445 hE) rfl rfl ⟨(Nat.le_of_ble_eq_true rfl), (Nat.le_of_ble_eq_true rfl)⟩) [] rfl (by decide) rfl hl.1 rfl (lv_room (Nat.le_of_ble_eq_true rfl)) dX10_many_5 ⟨(Nat.le_of_ble_eq_true rfl), (Nat.le_of_ble_eq_true rfl)⟩) hP hD hS hA (fun u9 H locs hP hS => ?_)
  refine x_iald (v := 0) hx hb hE hP 0 rfl 245 (x_in (by decide)) (by decide) hf41 dX10_many_8 ?_
  exact x_zret hx hb hr rfl rfl hlocks hP hD hS hAe hsz (Nat.le_of_ble_eq_true rfl) (Nat.le_of_ble_eq_true rfl) (fun _ => 0) [0, 1] (by decide) rfl dX10_many_9

set_option maxHeartbeats 4000000 in
set_option maxRecDepth 100000 in
theorem c213_X10_itemsAt (l : Launch) (g : gG) (sz : Nat) : Met l yX10_itemsAt [Cond.code yX10_itemsAt cX10_itemsAt 1 (some .int)] ({ frames := 0, cells := 0, slots := 0, locals := 0 } : Room) (va_Pc [.int 6] (PX g sz [])) (QI g [] sz 294 (fun _ => [])) 0 0 (va_A [] sz) := by
  refine ofN (by decide) (Nat.le_of_ble_eq_true rfl) rfl ?_
  intro p e s m args below meth c A ls hAe hsz hx hb hml hr hlocks hin hown hE hP hD hA hS hl
  have hown : s.vm.findClass RX10 = some m.cls := hown
  refine lv_iconst (v := 0) hx hb dX10_itemsAt_0 (by decide) ?_
  refine lv_bipush (v := 49) hx hb dX10_itemsAt_1 (by decide) ?_
  refine lv_iload_n hx hb dX10_itemsAt_3 rfl (lv_at hl 0 rfl) ?_
  refine x_imul (v := 294) hx hb dX10_itemsAt_4 (by decide) ?_
  refine x_iadd (v := 294) hx hb dX10_itemsAt_5 (by decide) ?_
  exact x_zret hx hb hr rfl rfl hlocks hP hD hS hAe hsz (Nat.le_of_ble_eq_true rfl) (Nat.le_of_ble_eq_true rfl) (fun _ => 0) [] (by decide) rfl dX10_itemsAt_6

set_option maxHeartbeats 4000000 in
set_option maxRecDepth 100000 in
theorem c214_X10_many (l : Launch) (g : gG) (q1 q39 : Nat) (w3 w4 w5 w6 w7 w8 w9 w10 w11 w12 w13 w14 w15 w16 w17 w18 w19 w20 w21 w22 w23 w24 w25 w26 w27 w28 w29 w30 w31 w32 w33 w34 w35 w36 w37 w38 : Value) (f40 : Nat → Int32) (hf41 : f40 294 = 0) (sz : Nat) : Met l yX10_many [Cond.code yX10_many cX10_many 2 (some .int)] ({ frames := 1, cells := 0, slots := 0, locals := 20 } : Room) (va_Pc [.ref q1, .int 6] (PX g sz [(q39, .inl (g.2 0, 497, .inl f40)), (q1, .inr (12, [.ref q39, w3, w4, w5, w6, w7, w8, w9, w10, w11, w12, w13, w14, w15, w16, w17, w18, w19, w20, w21, w22, w23, w24, w25, w26, w27, w28, w29, w30, w31, w32, w33, w34, w35, w36, w37, w38]))])) (QI g [(q39, .inl (g.2 0, 497, .inl f40)), (q1, .inr (12, [.ref q39, w3, w4, w5, w6, w7, w8, w9, w10, w11, w12, w13, w14, w15, w16, w17, w18, w19, w20, w21, w22, w23, w24, w25, w26, w27, w28, w29, w30, w31, w32, w33, w34, w35, w36, w37, w38]))] sz 0 (fun _ => [(q39, .inl (g.2 0, 497, .inl f40)), (q1, .inr (12, [.ref q39, w3, w4, w5, w6, w7, w8, w9, w10, w11, w12, w13, w14, w15, w16, w17, w18, w19, w20, w21, w22, w23, w24, w25, w26, w27, w28, w29, w30, w31, w32, w33, w34, w35, w36, w37, w38]))])) 0 0 (va_A [(q39, .inl (g.2 0, 497, .inl f40)), (q1, .inr (12, [.ref q39, w3, w4, w5, w6, w7, w8, w9, w10, w11, w12, w13, w14, w15, w16, w17, w18, w19, w20, w21, w22, w23, w24, w25, w26, w27, w28, w29, w30, w31, w32, w33, w34, w35, w36, w37, w38]))] sz) := by
  refine ofN (by decide) (Nat.le_of_ble_eq_true rfl) rfl ?_
  intro p e s m args below meth c A ls hAe hsz hx hb hml hr hlocks hin hown hE hP hD hA hS hl
  have hown : s.vm.findClass RX10 = some m.cls := hown
  refine lv_aload_n hx hb dX10_many_0 rfl (lv_at hl 0 rfl) ?_
  refine gf_RX10_9 hx hb hown hE hP 1 rfl rfl dX10_many_1 ?_
  refine lv_iload_n hx hb dX10_many_4 rfl (lv_at hl 1 rfl) ?_
  refine g0_i (rS (rest := [.ref q39]) hx hb hml hown hE hP hD (c213_X10_itemsAt l g s.heap.size) (kS_X10_itemsAt hE (e1445 hE) rfl rfl ⟨(Nat.le_of_ble_eq_true rfl), (Nat.le_of_ble_eq_true rfl)⟩) [] rfl (by decide) rfl hl.1 rfl (lv_room (Nat.le_of_ble_eq_true rfl)) dX10_many_5 ⟨(Nat.le_of_ble_eq_true rfl), (Nat.le_of_ble_eq_true rfl)⟩) hP hD hS hA (fun u9 H locs hP hS => ?_)
  refine x_iald (v := 0) hx hb hE hP 0 rfl 294 (x_in (by decide)) (by decide) hf41 dX10_many_8 ?_
  exact x_zret hx hb hr rfl rfl hlocks hP hD hS hAe hsz (Nat.le_of_ble_eq_true rfl) (Nat.le_of_ble_eq_true rfl) (fun _ => 0) [0, 1] (by decide) rfl dX10_many_9

set_option maxHeartbeats 4000000 in
set_option maxRecDepth 100000 in
theorem c215_X10_itemsAt (l : Launch) (g : gG) (sz : Nat) : Met l yX10_itemsAt [Cond.code yX10_itemsAt cX10_itemsAt 1 (some .int)] ({ frames := 0, cells := 0, slots := 0, locals := 0 } : Room) (va_Pc [.int 7] (PX g sz [])) (QI g [] sz 343 (fun _ => [])) 0 0 (va_A [] sz) := by
  refine ofN (by decide) (Nat.le_of_ble_eq_true rfl) rfl ?_
  intro p e s m args below meth c A ls hAe hsz hx hb hml hr hlocks hin hown hE hP hD hA hS hl
  have hown : s.vm.findClass RX10 = some m.cls := hown
  refine lv_iconst (v := 0) hx hb dX10_itemsAt_0 (by decide) ?_
  refine lv_bipush (v := 49) hx hb dX10_itemsAt_1 (by decide) ?_
  refine lv_iload_n hx hb dX10_itemsAt_3 rfl (lv_at hl 0 rfl) ?_
  refine x_imul (v := 343) hx hb dX10_itemsAt_4 (by decide) ?_
  refine x_iadd (v := 343) hx hb dX10_itemsAt_5 (by decide) ?_
  exact x_zret hx hb hr rfl rfl hlocks hP hD hS hAe hsz (Nat.le_of_ble_eq_true rfl) (Nat.le_of_ble_eq_true rfl) (fun _ => 0) [] (by decide) rfl dX10_itemsAt_6

set_option maxHeartbeats 4000000 in
set_option maxRecDepth 100000 in
theorem c216_X10_many (l : Launch) (g : gG) (q1 q39 : Nat) (w3 w4 w5 w6 w7 w8 w9 w10 w11 w12 w13 w14 w15 w16 w17 w18 w19 w20 w21 w22 w23 w24 w25 w26 w27 w28 w29 w30 w31 w32 w33 w34 w35 w36 w37 w38 : Value) (f40 : Nat → Int32) (hf41 : f40 343 = 0) (sz : Nat) : Met l yX10_many [Cond.code yX10_many cX10_many 2 (some .int)] ({ frames := 1, cells := 0, slots := 0, locals := 20 } : Room) (va_Pc [.ref q1, .int 7] (PX g sz [(q39, .inl (g.2 0, 497, .inl f40)), (q1, .inr (12, [.ref q39, w3, w4, w5, w6, w7, w8, w9, w10, w11, w12, w13, w14, w15, w16, w17, w18, w19, w20, w21, w22, w23, w24, w25, w26, w27, w28, w29, w30, w31, w32, w33, w34, w35, w36, w37, w38]))])) (QI g [(q39, .inl (g.2 0, 497, .inl f40)), (q1, .inr (12, [.ref q39, w3, w4, w5, w6, w7, w8, w9, w10, w11, w12, w13, w14, w15, w16, w17, w18, w19, w20, w21, w22, w23, w24, w25, w26, w27, w28, w29, w30, w31, w32, w33, w34, w35, w36, w37, w38]))] sz 0 (fun _ => [(q39, .inl (g.2 0, 497, .inl f40)), (q1, .inr (12, [.ref q39, w3, w4, w5, w6, w7, w8, w9, w10, w11, w12, w13, w14, w15, w16, w17, w18, w19, w20, w21, w22, w23, w24, w25, w26, w27, w28, w29, w30, w31, w32, w33, w34, w35, w36, w37, w38]))])) 0 0 (va_A [(q39, .inl (g.2 0, 497, .inl f40)), (q1, .inr (12, [.ref q39, w3, w4, w5, w6, w7, w8, w9, w10, w11, w12, w13, w14, w15, w16, w17, w18, w19, w20, w21, w22, w23, w24, w25, w26, w27, w28, w29, w30, w31, w32, w33, w34, w35, w36, w37, w38]))] sz) := by
  refine ofN (by decide) (Nat.le_of_ble_eq_true rfl) rfl ?_
  intro p e s m args below meth c A ls hAe hsz hx hb hml hr hlocks hin hown hE hP hD hA hS hl
  have hown : s.vm.findClass RX10 = some m.cls := hown
  refine lv_aload_n hx hb dX10_many_0 rfl (lv_at hl 0 rfl) ?_
  refine gf_RX10_9 hx hb hown hE hP 1 rfl rfl dX10_many_1 ?_
  refine lv_iload_n hx hb dX10_many_4 rfl (lv_at hl 1 rfl) ?_
  refine g0_i (rS (rest := [.ref q39]) hx hb hml hown hE hP hD (c215_X10_itemsAt l g s.heap.size) (kS_X10_itemsAt hE (e1445 hE) rfl rfl ⟨(Nat.le_of_ble_eq_true rfl), (Nat.le_of_ble_eq_true rfl)⟩) [] rfl (by decide) rfl hl.1 rfl (lv_room (Nat.le_of_ble_eq_true rfl)) dX10_many_5 ⟨(Nat.le_of_ble_eq_true rfl), (Nat.le_of_ble_eq_true rfl)⟩) hP hD hS hA (fun u9 H locs hP hS => ?_)
  refine x_iald (v := 0) hx hb hE hP 0 rfl 343 (x_in (by decide)) (by decide) hf41 dX10_many_8 ?_
  exact x_zret hx hb hr rfl rfl hlocks hP hD hS hAe hsz (Nat.le_of_ble_eq_true rfl) (Nat.le_of_ble_eq_true rfl) (fun _ => 0) [0, 1] (by decide) rfl dX10_many_9

set_option maxHeartbeats 4000000 in
set_option maxRecDepth 100000 in
theorem c217_X10_layLengths (l : Launch) (g : gG) (q1 q39 q45 q48 : Nat) (x44 : Int32) (w3 w4 w5 w6 w7 w8 w11 w12 w13 w14 w15 w16 w17 w18 w19 w20 w21 w22 w23 w24 w25 w26 w27 w28 w29 w30 w31 w32 w33 w34 w35 w36 w37 w38 : Value) (f40 : Nat → Int32) (f47 : Nat → Int32) (hf41 : f40 0 = 1) (hf42 : f40 1 = 0) (hf43 : f40 3 = x44) (hf49 : f40 49 = 0) (hf50 : f47 1 = 0) (hf51 : f40 98 = 0) (hf52 : f47 2 = 0) (hf53 : f40 147 = 0) (hf54 : f47 3 = 0) (hf55 : f40 196 = 0) (hf56 : f47 4 = 0) (hf57 : f40 245 = 0) (hf58 : f47 5 = 0) (hf59 : f40 294 = 0) (hf60 : f47 6 = 0) (hf61 : f40 343 = 0) (hf62 : f47 7 = 0) (h46 : x44 ≤ 200000) (sz : Nat) : Met l yX10_layLengths [Cond.code yX10_layLengths cX10_layLengths 6 none] ({ frames := 2, cells := 0, slots := 0, locals := 43 } : Room) (va_Pc [.ref q1] (PX g sz [(q48, .inl (g.2 0, 8, .inl f47)), (q45, .inl (g.2 0, 8, .inl f47)), (q39, .inl (g.2 0, 497, .inl f40)), (q1, .inr (12, [.ref q39, w3, w4, w5, w6, w7, w8, .ref q45, .ref q48, w11, w12, w13, w14, w15, w16, w17, w18, w19, w20, w21, w22, w23, w24, w25, w26, w27, w28, w29, w30, w31, w32, w33, w34, w35, w36, w37, w38]))])) (QV g [(q48, .inl (g.2 0, 8, .inl f47)), (q45, .inl (g.2 0, 8, .inl f47)), (q39, .inl (g.2 0, 497, .inl f40)), (q1, .inr (12, [.ref q39, w3, w4, w5, w6, w7, w8, .ref q45, .ref q48, w11, w12, w13, w14, w15, w16, w17, w18, w19, w20, w21, w22, w23, w24, w25, w26, w27, w28, w29, w30, w31, w32, w33, w34, w35, w36, w37, w38]))] sz (fun _ => [(q48, .inl (g.2 0, 8, .inl (upd f47 0 1))), (q45, .inl (g.2 0, 8, .inl (upd f47 0 x44))), (q39, .inl (g.2 0, 497, .inl f40)), (q1, .inr (12, [.ref q39, w3, w4, w5, w6, w7, w8, .ref q45, .ref q48, w11, w12, w13, w14, w15, w16, w17, w18, w19, w20, w21, w22, w23, w24, w25, w26, w27, w28, w29, w30, w31, w32, w33, w34, w35, w36, w37, w38]))])) 0 0 (va_A [(q48, .inl (g.2 0, 8, .inl f47)), (q45, .inl (g.2 0, 8, .inl f47)), (q39, .inl (g.2 0, 497, .inl f40)), (q1, .inr (12, [.ref q39, w3, w4, w5, w6, w7, w8, .ref q45, .ref q48, w11, w12, w13, w14, w15, w16, w17, w18, w19, w20, w21, w22, w23, w24, w25, w26, w27, w28, w29, w30, w31, w32, w33, w34, w35, w36, w37, w38]))] sz) := by
  refine ofN (by decide) (Nat.le_of_ble_eq_true rfl) rfl ?_
  intro p e s m args below meth c A ls hAe hsz hx hb hml hr hlocks hin hown hE hP hD hA hS hl
  have hown : s.vm.findClass RX10 = some m.cls := hown
  refine lv_iconst (v := 0) hx hb dX10_layLengths_0 (by decide) ?_
  refine lv_istore_n (lv' := [(1, .int 0), (0, .ref q1)]) hx hb dX10_layLengths_1 rfl hl (by decide) rfl (fun ls hl => ?_)
  refine lv_iload_n hx hb dX10_layLengths_2 rfl (lv_at hl 0 rfl) ?_
  refine lv_bipush (v := 8) hx hb dX10_layLengths_3 (by decide) ?_
  refine lv_icmp_ge (tgt := 164) hx hb dX10_layLengths_5 (by decide) (fun h => absurd h (by decide)) (fun _ => ?_)
  refine lv_iconst (v := 0) hx hb dX10_layLengths_8 (by decide) ?_
  refine lv_istore_n (lv' := [(2, .int 0), (1, .int 0), (0, .ref q1)]) hx hb dX10_layLengths_9 rfl hl (by decide) rfl (fun ls hl => ?_)
  refine lv_iconst (v := 0) hx hb dX10_layLengths_10 (by decide) ?_
  refine lv_istore_n (lv' := [(3, .int 0), (2, .int 0), (1, .int 0), (0, .ref q1)]) hx hb dX10_layLengths_11 rfl hl (by decide) rfl (fun ls hl => ?_)
  refine lv_iconst (v := 0) hx hb dX10_layLengths_12 (by decide) ?_
  refine lv_istore (lv' := [(4, .int 0), (3, .int 0), (2, .int 0), (1, .int 0), (0, .ref q1)]) hx hb dX10_layLengths_13 hl (by decide) rfl (fun ls hl => ?_)
  refine lv_iload hx hb dX10_layLengths_15 (lv_at hl 0 rfl) ?_
  refine lv_aload_n hx hb dX10_layLengths_17 rfl (lv_at hl 4 rfl) ?_
  refine lv_iload_n hx hb dX10_layLengths_18 rfl (lv_at hl 3 rfl) ?_
  refine g_i (wr := [(q48, .inl (g.2 0, 8, .inl f47)), (q45, .inl (g.2 0, 8, .inl f47))]) (rV (rest := [.int 0]) hx hb hml hown hE hP hD 3 rfl rfl (c200_X10_many l g q1 q39 w3 w4 w5 w6 w7 w8 (.ref q45) (.ref q48) w11 w12 w13 w14 w15 w16 w17 w18 w19 w20 w21 w22 w23 w24 w25 w26 w27 w28 w29 w30 w31 w32 w33 w34 w35 w36 w37 w38 f40 (hf41) s.heap.size) (kV_X10_many hE (e1456 hE) rfl rfl ⟨(Nat.le_of_ble_eq_true rfl), (Nat.le_of_ble_eq_true rfl)⟩) [2, 3] rfl (by decide) rfl hl.1 rfl (lv_room (Nat.le_of_ble_eq_true rfl)) dX10_layLengths_19 ⟨(Nat.le_of_ble_eq_true rfl), (Nat.le_of_ble_eq_true rfl)⟩) hP hD hS hA [2, 3] [0, 1] rfl rfl (by decide) (by decide) (fun u1 H locs hP hD hS => ?_)
  have hP : va_P g.1 vwCl [(q48, .inl (g.2 0, 8, .inl f47)), (q45, .inl (g.2 0, 8, .inl f47)), (q39, .inl (g.2 0, 497, .inl f40)), (q1, .inr (12, [.ref q39, w3, w4, w5, w6, w7, w8, .ref q45, .ref q48, w11, w12, w13, w14, w15, w16, w17, w18, w19, w20, w21, w22, w23, w24, w25, w26, w27, w28, w29, w30, w31, w32, w33, w34, w35, w36, w37, w38]))] H := hP
  have hD : va_D A [(q48, .inl (g.2 0, 8, .inl f47)), (q45, .inl (g.2 0, 8, .inl f47)), (q39, .inl (g.2 0, 497, .inl f40)), (q1, .inr (12, [.ref q39, w3, w4, w5, w6, w7, w8, .ref q45, .ref q48, w11, w12, w13, w14, w15, w16, w17, w18, w19, w20, w21, w22, w23, w24, w25, w26, w27, w28, w29, w30, w31, w32, w33, w34, w35, w36, w37, w38]))] := hD
  refine lv_icmp_ge (tgt := 134) hx hb dX10_layLengths_22 (by decide) (fun h => absurd h (by decide)) (fun _ => ?_)
  refine lv_aload_n hx hb dX10_layLengths_25 rfl (lv_at hl 4 rfl) ?_
  refine lv_iload_n hx hb dX10_layLengths_26 rfl (lv_at hl 3 rfl) ?_
  refine lv_iload hx hb dX10_layLengths_27 (lv_at hl 0 rfl) ?_
  refine lv_iconst (v := 0) hx hb dX10_layLengths_29 (by decide) ?_
  refine g_i (wr := [(q48, .inl (g.2 0, 8, .inl f47)), (q45, .inl (g.2 0, 8, .inl f47))]) (rV (rest := []) hx hb hml hown hE hP hD 3 rfl rfl (c201_X10_of l g q1 q39 w3 w4 w5 w6 w7 w8 (.ref q45) (.ref q48) w11 w12 w13 w14 w15 w16 w17 w18 w19 w20 w21 w22 w23 w24 w25 w26 w27 w28 w29 w30 w31 w32 w33 w34 w35 w36 w37 w38 f40 (hf42) H.size) (kV_X10_of hE (e1460 hE) rfl rfl ⟨(Nat.le_of_ble_eq_true rfl), (Nat.le_of_ble_eq_true rfl)⟩) [2, 3] rfl (by decide) rfl hl.1 rfl (lv_room (Nat.le_of_ble_eq_true rfl)) dX10_layLengths_30 ⟨(Nat.le_of_ble_eq_true rfl), (Nat.le_of_ble_eq_true rfl)⟩) hP hD hS hA [2, 3] [0, 1] rfl rfl (by decide) (by decide) (fun u2 H locs hP hD hS => ?_)
  have hP : va_P g.1 vwCl [(q48, .inl (g.2 0, 8, .inl f47)), (q45, .inl (g.2 0, 8, .inl f47)), (q39, .inl (g.2 0, 497, .inl f40)), (q1, .inr (12, [.ref q39, w3, w4, w5, w6, w7, w8, .ref q45, .ref q48, w11, w12, w13, w14, w15, w16, w17, w18, w19, w20, w21, w22, w23, w24, w25, w26, w27, w28, w29, w30, w31, w32, w33, w34, w35, w36, w37, w38]))] H := hP
  have hD : va_D A [(q48, .inl (g.2 0, 8, .inl f47)), (q45, .inl (g.2 0, 8, .inl f47)), (q39, .inl (g.2 0, 497, .inl f40)), (q1, .inr (12, [.ref q39, w3, w4, w5, w6, w7, w8, .ref q45, .ref q48, w11, w12, w13, w14, w15, w16, w17, w18, w19, w20, w21, w22, w23, w24, w25, w26, w27, w28, w29, w30, w31, w32, w33, w34, w35, w36, w37, w38]))] := hD
  refine lv_iconst (v := 2) hx hb dX10_layLengths_33 (by decide) ?_
  refine lv_icmp_ne (tgt := 41) hx hb dX10_layLengths_34 (by decide) (fun _ => ?_) (fun h => absurd h (by decide))
  refine lv_iconst (v := 0) hx hb dX10_layLengths_41 (by decide) ?_
  refine lv_istore (lv' := [(5, .int 0), (4, .int 0), (3, .int 0), (2, .int 0), (1, .int 0), (0, .ref q1)]) hx hb dX10_layLengths_42 hl (by decide) rfl (fun ls hl => ?_)
  refine lv_iload_n hx hb dX10_layLengths_44 rfl (lv_at hl 3 rfl) ?_
  refine lv_iload hx hb dX10_layLengths_45 (lv_at hl 0 rfl) ?_
  refine lv_if_eq (tgt := 75) hx hb dX10_layLengths_47 (by decide) (fun _ => ?_) (fun h => absurd (by decide) h)
  refine lv_aload_n hx hb dX10_layLengths_75 rfl (lv_at hl 5 rfl) ?_
  refine lv_iload_n hx hb dX10_layLengths_76 rfl (lv_at hl 4 rfl) ?_
  refine lv_iload hx hb dX10_layLengths_77 (lv_at hl 1 rfl) ?_
  refine lv_iconst (v := 2) hx hb dX10_layLengths_79 (by decide) ?_
  refine g_i (wr := [(q48, .inl (g.2 0, 8, .inl f47)), (q45, .inl (g.2 0, 8, .inl f47))]) (rV (rest := [.int 0]) hx hb hml hown hE hP hD 3 rfl rfl (c202_X10_of l g q1 q39 x44 w3 w4 w5 w6 w7 w8 (.ref q45) (.ref q48) w11 w12 w13 w14 w15 w16 w17 w18 w19 w20 w21 w22 w23 w24 w25 w26 w27 w28 w29 w30 w31 w32 w33 w34 w35 w36 w37 w38 f40 (hf43) H.size) (kV_X10_of hE (e1460 hE) rfl rfl ⟨(Nat.le_of_ble_eq_true rfl), (Nat.le_of_ble_eq_true rfl)⟩) [2, 3] rfl (by decide) rfl hl.1 rfl (lv_room (Nat.le_of_ble_eq_true rfl)) dX10_layLengths_80 ⟨(Nat.le_of_ble_eq_true rfl), (Nat.le_of_ble_eq_true rfl)⟩) hP hD hS hA [2, 3] [0, 1] rfl rfl (by decide) (by decide) (fun u3 H locs hP hD hS => ?_)
  have hP : va_P g.1 vwCl [(q48, .inl (g.2 0, 8, .inl f47)), (q45, .inl (g.2 0, 8, .inl f47)), (q39, .inl (g.2 0, 497, .inl f40)), (q1, .inr (12, [.ref q39, w3, w4, w5, w6, w7, w8, .ref q45, .ref q48, w11, w12, w13, w14, w15, w16, w17, w18, w19, w20, w21, w22, w23, w24, w25, w26, w27, w28, w29, w30, w31, w32, w33, w34, w35, w36, w37, w38]))] H := hP
  have hD : va_D A [(q48, .inl (g.2 0, 8, .inl f47)), (q45, .inl (g.2 0, 8, .inl f47)), (q39, .inl (g.2 0, 497, .inl f40)), (q1, .inr (12, [.ref q39, w3, w4, w5, w6, w7, w8, .ref q45, .ref q48, w11, w12, w13, w14, w15, w16, w17, w18, w19, w20, w21, w22, w23, w24, w25, w26, w27, w28, w29, w30, w31, w32, w33, w34, w35, w36, w37, w38]))] := hD
  refine x_iadd (v := x44) hx hb dX10_layLengths_83 (Int32.zero_add _) ?_
  refine lv_istore_n (lv' := [(2, .int x44), (5, .int 0), (4, .int 0), (3, .int 0), (1, .int 0), (0, .ref q1)]) hx hb dX10_layLengths_84 rfl hl (by decide) rfl (fun ls hl => ?_)
  refine lv_iload_n hx hb dX10_layLengths_85 rfl (lv_at hl 3 rfl) ?_
  refine lv_iload hx hb dX10_layLengths_86 (lv_at hl 1 rfl) ?_
  refine lv_if_eq (tgt := 116) hx hb dX10_layLengths_88 (by decide) (fun _ => ?_) (fun h => absurd (by decide) h)
  refine lv_iconst (v := 1) hx hb dX10_layLengths_116 (by decide) ?_
  refine lv_aload_n hx hb dX10_layLengths_117 rfl (lv_at hl 5 rfl) ?_
  refine lv_iload_n hx hb dX10_layLengths_118 rfl (lv_at hl 4 rfl) ?_
  refine lv_iload hx hb dX10_layLengths_119 (lv_at hl 2 rfl) ?_
  refine lv_iconst (v := 0) hx hb dX10_layLengths_121 (by decide) ?_
  refine g_i (wr := [(q48, .inl (g.2 0, 8, .inl f47)), (q45, .inl (g.2 0, 8, .inl f47))]) (rV (rest := [.int 1, .int 0]) hx hb hml hown hE hP hD 3 rfl rfl (c201_X10_of l g q1 q39 w3 w4 w5 w6 w7 w8 (.ref q45) (.ref q48) w11 w12 w13 w14 w15 w16 w17 w18 w19 w20 w21 w22 w23 w24 w25 w26 w27 w28 w29 w30 w31 w32 w33 w34 w35 w36 w37 w38 f40 (hf42) H.size) (kV_X10_of hE (e1460 hE) rfl rfl ⟨(Nat.le_of_ble_eq_true rfl), (Nat.le_of_ble_eq_true rfl)⟩) [2, 3] rfl (by decide) rfl hl.1 rfl (lv_room (Nat.le_of_ble_eq_true rfl)) dX10_layLengths_122 ⟨(Nat.le_of_ble_eq_true rfl), (Nat.le_of_ble_eq_true rfl)⟩) hP hD hS hA [2, 3] [0, 1] rfl rfl (by decide) (by decide) (fun u4 H locs hP hD hS => ?_)
  have hP : va_P g.1 vwCl [(q48, .inl (g.2 0, 8, .inl f47)), (q45, .inl (g.2 0, 8, .inl f47)), (q39, .inl (g.2 0, 497, .inl f40)), (q1, .inr (12, [.ref q39, w3, w4, w5, w6, w7, w8, .ref q45, .ref q48, w11, w12, w13, w14, w15, w16, w17, w18, w19, w20, w21, w22, w23, w24, w25, w26, w27, w28, w29, w30, w31, w32, w33, w34, w35, w36, w37, w38]))] H := hP
  have hD : va_D A [(q48, .inl (g.2 0, 8, .inl f47)), (q45, .inl (g.2 0, 8, .inl f47)), (q39, .inl (g.2 0, 497, .inl f40)), (q1, .inr (12, [.ref q39, w3, w4, w5, w6, w7, w8, .ref q45, .ref q48, w11, w12, w13, w14, w15, w16, w17, w18, w19, w20, w21, w22, w23, w24, w25, w26, w27, w28, w29, w30, w31, w32, w33, w34, w35, w36, w37, w38]))] := hD
  refine x_isub (v := 1) hx hb dX10_layLengths_125 (by decide) ?_
  refine x_iadd (v := 1) hx hb dX10_layLengths_126 (by decide) ?_
  refine lv_istore_n (lv' := [(3, .int 1), (2, .int x44), (5, .int 0), (4, .int 0), (1, .int 0), (0, .ref q1)]) hx hb dX10_layLengths_127 rfl hl (by decide) rfl (fun ls hl => ?_)
  refine lv_iinc (v := 1) (lv' := [(4, .int 1), (3, .int 1), (2, .int x44), (5, .int 0), (1, .int 0), (0, .ref q1)]) hx hb dX10_layLengths_128 hl (k := 3) rfl (by decide) (by decide) rfl (fun ls hl => ?_)
  refine lv_goto (tgt := 15) hx hb dX10_layLengths_131 (by decide) ?_
  refine lv_iload hx hb dX10_layLengths_15 (lv_at hl 0 rfl) ?_
  refine lv_aload_n hx hb dX10_layLengths_17 rfl (lv_at hl 5 rfl) ?_
  refine lv_iload_n hx hb dX10_layLengths_18 rfl (lv_at hl 4 rfl) ?_
  refine g_i (wr := [(q48, .inl (g.2 0, 8, .inl f47)), (q45, .inl (g.2 0, 8, .inl f47))]) (rV (rest := [.int 1]) hx hb hml hown hE hP hD 3 rfl rfl (c200_X10_many l g q1 q39 w3 w4 w5 w6 w7 w8 (.ref q45) (.ref q48) w11 w12 w13 w14 w15 w16 w17 w18 w19 w20 w21 w22 w23 w24 w25 w26 w27 w28 w29 w30 w31 w32 w33 w34 w35 w36 w37 w38 f40 (hf41) H.size) (kV_X10_many hE (e1456 hE) rfl rfl ⟨(Nat.le_of_ble_eq_true rfl), (Nat.le_of_ble_eq_true rfl)⟩) [2, 3] rfl (by decide) rfl hl.1 rfl (lv_room (Nat.le_of_ble_eq_true rfl)) dX10_layLengths_19 ⟨(Nat.le_of_ble_eq_true rfl), (Nat.le_of_ble_eq_true rfl)⟩) hP hD hS hA [2, 3] [0, 1] rfl rfl (by decide) (by decide) (fun u5 H locs hP hD hS => ?_)
  have hP : va_P g.1 vwCl [(q48, .inl (g.2 0, 8, .inl f47)), (q45, .inl (g.2 0, 8, .inl f47)), (q39, .inl (g.2 0, 497, .inl f40)), (q1, .inr (12, [.ref q39, w3, w4, w5, w6, w7, w8, .ref q45, .ref q48, w11, w12, w13, w14, w15, w16, w17, w18, w19, w20, w21, w22, w23, w24, w25, w26, w27, w28, w29, w30, w31, w32, w33, w34, w35, w36, w37, w38]))] H := hP
  have hD : va_D A [(q48, .inl (g.2 0, 8, .inl f47)), (q45, .inl (g.2 0, 8, .inl f47)), (q39, .inl (g.2 0, 497, .inl f40)), (q1, .inr (12, [.ref q39, w3, w4, w5, w6, w7, w8, .ref q45, .ref q48, w11, w12, w13, w14, w15, w16, w17, w18, w19, w20, w21, w22, w23, w24, w25, w26, w27, w28, w29, w30, w31, w32, w33, w34, w35, w36, w37, w38]))] := hD
  refine lv_icmp_ge (tgt := 134) hx hb dX10_layLengths_22 (by decide) (fun _ => ?_) (fun h => absurd (by decide) h)
  refine lv_aload_n hx hb dX10_layLengths_134 rfl (lv_at hl 5 rfl) ?_
  refine gf_RX10_22 hx hb hown hE hP 3 rfl rfl dX10_layLengths_135 ?_
  refine lv_iload_n hx hb dX10_layLengths_138 rfl (lv_at hl 4 rfl) ?_
  refine lv_iload_n hx hb dX10_layLengths_139 rfl (lv_at hl 2 rfl) ?_
  refine lv_ldc (v := 200000) hx hb hown (e1464 hE) dX10_layLengths_140 ?_
  refine x_mmin (v := x44) hx hb (by rw [hml]; exact hl.1.symm) hown (e1465 hE) (e362 hE) (e9 hE) (e363 hE) (Nat.le_of_ble_eq_true rfl) (Nat.le_of_ble_eq_true rfl) (Nat.le_of_ble_eq_true rfl) (Nat.le_of_ble_eq_true rfl) (if_neg (i_nlt h46)) dX10_layLengths_142 ?_
  refine x_iast (ws' := [(q48, .inl (g.2 0, 8, .inl f47)), (q45, .inl (g.2 0, 8, .inl (upd f47 0 x44))), (q39, .inl (g.2 0, 497, .inl f40)), (q1, .inr (12, [.ref q39, w3, w4, w5, w6, w7, w8, .ref q45, .ref q48, w11, w12, w13, w14, w15, w16, w17, w18, w19, w20, w21, w22, w23, w24, w25, w26, w27, w28, w29, w30, w31, w32, w33, w34, w35, w36, w37, w38]))]) hx hb hE hP hD hS 1 rfl 0 (x_in (by decide)) (by decide) dX10_layLengths_145 rfl (fun H locs hP hD hS => ?_)
  refine lv_aload_n hx hb dX10_layLengths_146 rfl (lv_at hl 5 rfl) ?_
  refine gf_RX10_25 hx hb hown hE hP 3 rfl rfl dX10_layLengths_147 ?_
  refine lv_iload_n hx hb dX10_layLengths_150 rfl (lv_at hl 4 rfl) ?_
  refine lv_iload_n hx hb dX10_layLengths_151 rfl (lv_at hl 1 rfl) ?_
  refine lv_ldc (v := 200000) hx hb hown (e1464 hE) dX10_layLengths_152 ?_
  refine x_mmin (v := 1) hx hb (by rw [hml]; exact hl.1.symm) hown (e1465 hE) (e362 hE) (e9 hE) (e363 hE) (Nat.le_of_ble_eq_true rfl) (Nat.le_of_ble_eq_true rfl) (Nat.le_of_ble_eq_true rfl) (Nat.le_of_ble_eq_true rfl) (by decide) dX10_layLengths_154 ?_
  refine x_iast (ws' := [(q48, .inl (g.2 0, 8, .inl (upd f47 0 1))), (q45, .inl (g.2 0, 8, .inl (upd f47 0 x44))), (q39, .inl (g.2 0, 497, .inl f40)), (q1, .inr (12, [.ref q39, w3, w4, w5, w6, w7, w8, .ref q45, .ref q48, w11, w12, w13, w14, w15, w16, w17, w18, w19, w20, w21, w22, w23, w24, w25, w26, w27, w28, w29, w30, w31, w32, w33, w34, w35, w36, w37, w38]))]) hx hb hE hP hD hS 0 rfl 0 (x_in (by decide)) (by decide) dX10_layLengths_157 rfl (fun H locs hP hD hS => ?_)
  refine lv_iinc (v := 1) (lv' := [(1, .int 1), (4, .int 1), (3, .int 1), (2, .int x44), (5, .int 0), (0, .ref q1)]) hx hb dX10_layLengths_158 hl (k := 4) rfl (by decide) (by decide) rfl (fun ls hl => ?_)
  refine lv_goto (tgt := 2) hx hb dX10_layLengths_161 (by decide) ?_
  refine lv_iload_n hx hb dX10_layLengths_2 rfl (lv_at hl 0 rfl) ?_
  refine lv_bipush (v := 8) hx hb dX10_layLengths_3 (by decide) ?_
  refine lv_icmp_ge (tgt := 164) hx hb dX10_layLengths_5 (by decide) (fun h => absurd h (by decide)) (fun _ => ?_)
  refine lv_iconst (v := 0) hx hb dX10_layLengths_8 (by decide) ?_
  refine lv_istore_n (lv' := [(2, .int 0), (1, .int 1), (4, .int 1), (3, .int 1), (5, .int 0), (0, .ref q1)]) hx hb dX10_layLengths_9 rfl hl (by decide) rfl (fun ls hl => ?_)
  refine lv_iconst (v := 0) hx hb dX10_layLengths_10 (by decide) ?_
  refine lv_istore_n (lv' := [(3, .int 0), (2, .int 0), (1, .int 1), (4, .int 1), (5, .int 0), (0, .ref q1)]) hx hb dX10_layLengths_11 rfl hl (by decide) rfl (fun ls hl => ?_)
  refine lv_iconst (v := 0) hx hb dX10_layLengths_12 (by decide) ?_
  refine lv_istore (lv' := [(4, .int 0), (3, .int 0), (2, .int 0), (1, .int 1), (5, .int 0), (0, .ref q1)]) hx hb dX10_layLengths_13 hl (by decide) rfl (fun ls hl => ?_)
  refine lv_iload hx hb dX10_layLengths_15 (lv_at hl 0 rfl) ?_
  refine lv_aload_n hx hb dX10_layLengths_17 rfl (lv_at hl 5 rfl) ?_
  refine lv_iload_n hx hb dX10_layLengths_18 rfl (lv_at hl 3 rfl) ?_
  refine g_i (wr := [(q48, .inl (g.2 0, 8, .inl (upd f47 0 1))), (q45, .inl (g.2 0, 8, .inl (upd f47 0 x44)))]) (rV (rest := [.int 0]) hx hb hml hown hE hP hD 3 rfl rfl (c204_X10_many l g q1 q39 w3 w4 w5 w6 w7 w8 (.ref q45) (.ref q48) w11 w12 w13 w14 w15 w16 w17 w18 w19 w20 w21 w22 w23 w24 w25 w26 w27 w28 w29 w30 w31 w32 w33 w34 w35 w36 w37 w38 f40 (hf49) H.size) (kV_X10_many hE (e1456 hE) rfl rfl ⟨(Nat.le_of_ble_eq_true rfl), (Nat.le_of_ble_eq_true rfl)⟩) [2, 3] rfl (by decide) rfl hl.1 rfl (lv_room (Nat.le_of_ble_eq_true rfl)) dX10_layLengths_19 ⟨(Nat.le_of_ble_eq_true rfl), (Nat.le_of_ble_eq_true rfl)⟩) hP hD hS hA [2, 3] [0, 1] rfl rfl (by decide) (by decide) (fun u6 H locs hP hD hS => ?_)
  have hP : va_P g.1 vwCl [(q48, .inl (g.2 0, 8, .inl (upd f47 0 1))), (q45, .inl (g.2 0, 8, .inl (upd f47 0 x44))), (q39, .inl (g.2 0, 497, .inl f40)), (q1, .inr (12, [.ref q39, w3, w4, w5, w6, w7, w8, .ref q45, .ref q48, w11, w12, w13, w14, w15, w16, w17, w18, w19, w20, w21, w22, w23, w24, w25, w26, w27, w28, w29, w30, w31, w32, w33, w34, w35, w36, w37, w38]))] H := hP
  have hD : va_D A [(q48, .inl (g.2 0, 8, .inl (upd f47 0 1))), (q45, .inl (g.2 0, 8, .inl (upd f47 0 x44))), (q39, .inl (g.2 0, 497, .inl f40)), (q1, .inr (12, [.ref q39, w3, w4, w5, w6, w7, w8, .ref q45, .ref q48, w11, w12, w13, w14, w15, w16, w17, w18, w19, w20, w21, w22, w23, w24, w25, w26, w27, w28, w29, w30, w31, w32, w33, w34, w35, w36, w37, w38]))] := hD
  refine lv_icmp_ge (tgt := 134) hx hb dX10_layLengths_22 (by decide) (fun _ => ?_) (fun h => absurd (by decide) h)
  refine lv_aload_n hx hb dX10_layLengths_134 rfl (lv_at hl 5 rfl) ?_
  refine gf_RX10_22 hx hb hown hE hP 3 rfl rfl dX10_layLengths_135 ?_
  refine lv_iload_n hx hb dX10_layLengths_138 rfl (lv_at hl 3 rfl) ?_
  refine lv_iload_n hx hb dX10_layLengths_139 rfl (lv_at hl 2 rfl) ?_
  refine lv_ldc (v := 200000) hx hb hown (e1464 hE) dX10_layLengths_140 ?_
  refine x_mmin (v := 0) hx hb (by rw [hml]; exact hl.1.symm) hown (e1465 hE) (e362 hE) (e9 hE) (e363 hE) (Nat.le_of_ble_eq_true rfl) (Nat.le_of_ble_eq_true rfl) (Nat.le_of_ble_eq_true rfl) (Nat.le_of_ble_eq_true rfl) (by decide) dX10_layLengths_142 ?_
  refine x_iast_same hx hb hE hP hD hS 1 rfl 1 (x_in (by decide)) (by decide) ((pk_un (by decide)).trans hf50) dX10_layLengths_145 (fun H locs hP hD hS => ?_)
  refine lv_aload_n hx hb dX10_layLengths_146 rfl (lv_at hl 5 rfl) ?_
  refine gf_RX10_25 hx hb hown hE hP 3 rfl rfl dX10_layLengths_147 ?_
  refine lv_iload_n hx hb dX10_layLengths_150 rfl (lv_at hl 3 rfl) ?_
  refine lv_iload_n hx hb dX10_layLengths_151 rfl (lv_at hl 1 rfl) ?_
  refine lv_ldc (v := 200000) hx hb hown (e1464 hE) dX10_layLengths_152 ?_
  refine x_mmin (v := 0) hx hb (by rw [hml]; exact hl.1.symm) hown (e1465 hE) (e362 hE) (e9 hE) (e363 hE) (Nat.le_of_ble_eq_true rfl) (Nat.le_of_ble_eq_true rfl) (Nat.le_of_ble_eq_true rfl) (Nat.le_of_ble_eq_true rfl) (by decide) dX10_layLengths_154 ?_
  refine x_iast_same hx hb hE hP hD hS 0 rfl 1 (x_in (by decide)) (by decide) ((pk_un (by decide)).trans hf50) dX10_layLengths_157 (fun H locs hP hD hS => ?_)
  refine lv_iinc (v := 2) (lv' := [(1, .int 2), (4, .int 0), (3, .int 0), (2, .int 0), (5, .int 0), (0, .ref q1)]) hx hb dX10_layLengths_158 hl (k := 3) rfl (by decide) (by decide) rfl (fun ls hl => ?_)
  refine lv_goto (tgt := 2) hx hb dX10_layLengths_161 (by decide) ?_
  refine lv_iload_n hx hb dX10_layLengths_2 rfl (lv_at hl 0 rfl) ?_
  refine lv_bipush (v := 8) hx hb dX10_layLengths_3 (by decide) ?_
  refine lv_icmp_ge (tgt := 164) hx hb dX10_layLengths_5 (by decide) (fun h => absurd h (by decide)) (fun _ => ?_)
  refine lv_iconst (v := 0) hx hb dX10_layLengths_8 (by decide) ?_
  refine lv_istore_n (lv' := [(2, .int 0), (1, .int 2), (4, .int 0), (3, .int 0), (5, .int 0), (0, .ref q1)]) hx hb dX10_layLengths_9 rfl hl (by decide) rfl (fun ls hl => ?_)
  refine lv_iconst (v := 0) hx hb dX10_layLengths_10 (by decide) ?_
  refine lv_istore_n (lv' := [(3, .int 0), (2, .int 0), (1, .int 2), (4, .int 0), (5, .int 0), (0, .ref q1)]) hx hb dX10_layLengths_11 rfl hl (by decide) rfl (fun ls hl => ?_)
  refine lv_iconst (v := 0) hx hb dX10_layLengths_12 (by decide) ?_
  refine lv_istore (lv' := [(4, .int 0), (3, .int 0), (2, .int 0), (1, .int 2), (5, .int 0), (0, .ref q1)]) hx hb dX10_layLengths_13 hl (by decide) rfl (fun ls hl => ?_)
  refine lv_iload hx hb dX10_layLengths_15 (lv_at hl 0 rfl) ?_
  refine lv_aload_n hx hb dX10_layLengths_17 rfl (lv_at hl 5 rfl) ?_
  refine lv_iload_n hx hb dX10_layLengths_18 rfl (lv_at hl 3 rfl) ?_
  refine g_i (wr := [(q48, .inl (g.2 0, 8, .inl (upd f47 0 1))), (q45, .inl (g.2 0, 8, .inl (upd f47 0 x44)))]) (rV (rest := [.int 0]) hx hb hml hown hE hP hD 3 rfl rfl (c206_X10_many l g q1 q39 w3 w4 w5 w6 w7 w8 (.ref q45) (.ref q48) w11 w12 w13 w14 w15 w16 w17 w18 w19 w20 w21 w22 w23 w24 w25 w26 w27 w28 w29 w30 w31 w32 w33 w34 w35 w36 w37 w38 f40 (hf51) H.size) (kV_X10_many hE (e1456 hE) rfl rfl ⟨(Nat.le_of_ble_eq_true rfl), (Nat.le_of_ble_eq_true rfl)⟩) [2, 3] rfl (by decide) rfl hl.1 rfl (lv_room (Nat.le_of_ble_eq_true rfl)) dX10_layLengths_19 ⟨(Nat.le_of_ble_eq_true rfl), (Nat.le_of_ble_eq_true rfl)⟩) hP hD hS hA [2, 3] [0, 1] rfl rfl (by decide) (by decide) (fun u7 H locs hP hD hS => ?_)
  have hP : va_P g.1 vwCl [(q48, .inl (g.2 0, 8, .inl (upd f47 0 1))), (q45, .inl (g.2 0, 8, .inl (upd f47 0 x44))), (q39, .inl (g.2 0, 497, .inl f40)), (q1, .inr (12, [.ref q39, w3, w4, w5, w6, w7, w8, .ref q45, .ref q48, w11, w12, w13, w14, w15, w16, w17, w18, w19, w20, w21, w22, w23, w24, w25, w26, w27, w28, w29, w30, w31, w32, w33, w34, w35, w36, w37, w38]))] H := hP
  have hD : va_D A [(q48, .inl (g.2 0, 8, .inl (upd f47 0 1))), (q45, .inl (g.2 0, 8, .inl (upd f47 0 x44))), (q39, .inl (g.2 0, 497, .inl f40)), (q1, .inr (12, [.ref q39, w3, w4, w5, w6, w7, w8, .ref q45, .ref q48, w11, w12, w13, w14, w15, w16, w17, w18, w19, w20, w21, w22, w23, w24, w25, w26, w27, w28, w29, w30, w31, w32, w33, w34, w35, w36, w37, w38]))] := hD
  refine lv_icmp_ge (tgt := 134) hx hb dX10_layLengths_22 (by decide) (fun _ => ?_) (fun h => absurd (by decide) h)
  refine lv_aload_n hx hb dX10_layLengths_134 rfl (lv_at hl 5 rfl) ?_
  refine gf_RX10_22 hx hb hown hE hP 3 rfl rfl dX10_layLengths_135 ?_
  refine lv_iload_n hx hb dX10_layLengths_138 rfl (lv_at hl 3 rfl) ?_
  refine lv_iload_n hx hb dX10_layLengths_139 rfl (lv_at hl 2 rfl) ?_
  refine lv_ldc (v := 200000) hx hb hown (e1464 hE) dX10_layLengths_140 ?_
  refine x_mmin (v := 0) hx hb (by rw [hml]; exact hl.1.symm) hown (e1465 hE) (e362 hE) (e9 hE) (e363 hE) (Nat.le_of_ble_eq_true rfl) (Nat.le_of_ble_eq_true rfl) (Nat.le_of_ble_eq_true rfl) (Nat.le_of_ble_eq_true rfl) (by decide) dX10_layLengths_142 ?_
  refine x_iast_same hx hb hE hP hD hS 1 rfl 2 (x_in (by decide)) (by decide) ((pk_un (by decide)).trans hf52) dX10_layLengths_145 (fun H locs hP hD hS => ?_)
  refine lv_aload_n hx hb dX10_layLengths_146 rfl (lv_at hl 5 rfl) ?_
  refine gf_RX10_25 hx hb hown hE hP 3 rfl rfl dX10_layLengths_147 ?_
  refine lv_iload_n hx hb dX10_layLengths_150 rfl (lv_at hl 3 rfl) ?_
  refine lv_iload_n hx hb dX10_layLengths_151 rfl (lv_at hl 1 rfl) ?_
  refine lv_ldc (v := 200000) hx hb hown (e1464 hE) dX10_layLengths_152 ?_
  refine x_mmin (v := 0) hx hb (by rw [hml]; exact hl.1.symm) hown (e1465 hE) (e362 hE) (e9 hE) (e363 hE) (Nat.le_of_ble_eq_true rfl) (Nat.le_of_ble_eq_true rfl) (Nat.le_of_ble_eq_true rfl) (Nat.le_of_ble_eq_true rfl) (by decide) dX10_layLengths_154 ?_
  refine x_iast_same hx hb hE hP hD hS 0 rfl 2 (x_in (by decide)) (by decide) ((pk_un (by decide)).trans hf52) dX10_layLengths_157 (fun H locs hP hD hS => ?_)
  refine lv_iinc (v := 3) (lv' := [(1, .int 3), (4, .int 0), (3, .int 0), (2, .int 0), (5, .int 0), (0, .ref q1)]) hx hb dX10_layLengths_158 hl (k := 3) rfl (by decide) (by decide) rfl (fun ls hl => ?_)
  refine lv_goto (tgt := 2) hx hb dX10_layLengths_161 (by decide) ?_
  refine lv_iload_n hx hb dX10_layLengths_2 rfl (lv_at hl 0 rfl) ?_
  refine lv_bipush (v := 8) hx hb dX10_layLengths_3 (by decide) ?_
  refine lv_icmp_ge (tgt := 164) hx hb dX10_layLengths_5 (by decide) (fun h => absurd h (by decide)) (fun _ => ?_)
  refine lv_iconst (v := 0) hx hb dX10_layLengths_8 (by decide) ?_
  refine lv_istore_n (lv' := [(2, .int 0), (1, .int 3), (4, .int 0), (3, .int 0), (5, .int 0), (0, .ref q1)]) hx hb dX10_layLengths_9 rfl hl (by decide) rfl (fun ls hl => ?_)
  refine lv_iconst (v := 0) hx hb dX10_layLengths_10 (by decide) ?_
  refine lv_istore_n (lv' := [(3, .int 0), (2, .int 0), (1, .int 3), (4, .int 0), (5, .int 0), (0, .ref q1)]) hx hb dX10_layLengths_11 rfl hl (by decide) rfl (fun ls hl => ?_)
  refine lv_iconst (v := 0) hx hb dX10_layLengths_12 (by decide) ?_
  refine lv_istore (lv' := [(4, .int 0), (3, .int 0), (2, .int 0), (1, .int 3), (5, .int 0), (0, .ref q1)]) hx hb dX10_layLengths_13 hl (by decide) rfl (fun ls hl => ?_)
  refine lv_iload hx hb dX10_layLengths_15 (lv_at hl 0 rfl) ?_
  refine lv_aload_n hx hb dX10_layLengths_17 rfl (lv_at hl 5 rfl) ?_
  refine lv_iload_n hx hb dX10_layLengths_18 rfl (lv_at hl 3 rfl) ?_
  refine g_i (wr := [(q48, .inl (g.2 0, 8, .inl (upd f47 0 1))), (q45, .inl (g.2 0, 8, .inl (upd f47 0 x44)))]) (rV (rest := [.int 0]) hx hb hml hown hE hP hD 3 rfl rfl (c208_X10_many l g q1 q39 w3 w4 w5 w6 w7 w8 (.ref q45) (.ref q48) w11 w12 w13 w14 w15 w16 w17 w18 w19 w20 w21 w22 w23 w24 w25 w26 w27 w28 w29 w30 w31 w32 w33 w34 w35 w36 w37 w38 f40 (hf53) H.size) (kV_X10_many hE (e1456 hE) rfl rfl ⟨(Nat.le_of_ble_eq_true rfl), (Nat.le_of_ble_eq_true rfl)⟩) [2, 3] rfl (by decide) rfl hl.1 rfl (lv_room (Nat.le_of_ble_eq_true rfl)) dX10_layLengths_19 ⟨(Nat.le_of_ble_eq_true rfl), (Nat.le_of_ble_eq_true rfl)⟩) hP hD hS hA [2, 3] [0, 1] rfl rfl (by decide) (by decide) (fun u8 H locs hP hD hS => ?_)
  have hP : va_P g.1 vwCl [(q48, .inl (g.2 0, 8, .inl (upd f47 0 1))), (q45, .inl (g.2 0, 8, .inl (upd f47 0 x44))), (q39, .inl (g.2 0, 497, .inl f40)), (q1, .inr (12, [.ref q39, w3, w4, w5, w6, w7, w8, .ref q45, .ref q48, w11, w12, w13, w14, w15, w16, w17, w18, w19, w20, w21, w22, w23, w24, w25, w26, w27, w28, w29, w30, w31, w32, w33, w34, w35, w36, w37, w38]))] H := hP
  have hD : va_D A [(q48, .inl (g.2 0, 8, .inl (upd f47 0 1))), (q45, .inl (g.2 0, 8, .inl (upd f47 0 x44))), (q39, .inl (g.2 0, 497, .inl f40)), (q1, .inr (12, [.ref q39, w3, w4, w5, w6, w7, w8, .ref q45, .ref q48, w11, w12, w13, w14, w15, w16, w17, w18, w19, w20, w21, w22, w23, w24, w25, w26, w27, w28, w29, w30, w31, w32, w33, w34, w35, w36, w37, w38]))] := hD
  refine lv_icmp_ge (tgt := 134) hx hb dX10_layLengths_22 (by decide) (fun _ => ?_) (fun h => absurd (by decide) h)
  refine lv_aload_n hx hb dX10_layLengths_134 rfl (lv_at hl 5 rfl) ?_
  refine gf_RX10_22 hx hb hown hE hP 3 rfl rfl dX10_layLengths_135 ?_
  refine lv_iload_n hx hb dX10_layLengths_138 rfl (lv_at hl 3 rfl) ?_
  refine lv_iload_n hx hb dX10_layLengths_139 rfl (lv_at hl 2 rfl) ?_
  refine lv_ldc (v := 200000) hx hb hown (e1464 hE) dX10_layLengths_140 ?_
  refine x_mmin (v := 0) hx hb (by rw [hml]; exact hl.1.symm) hown (e1465 hE) (e362 hE) (e9 hE) (e363 hE) (Nat.le_of_ble_eq_true rfl) (Nat.le_of_ble_eq_true rfl) (Nat.le_of_ble_eq_true rfl) (Nat.le_of_ble_eq_true rfl) (by decide) dX10_layLengths_142 ?_
  refine x_iast_same hx hb hE hP hD hS 1 rfl 3 (x_in (by decide)) (by decide) ((pk_un (by decide)).trans hf54) dX10_layLengths_145 (fun H locs hP hD hS => ?_)
  refine lv_aload_n hx hb dX10_layLengths_146 rfl (lv_at hl 5 rfl) ?_
  refine gf_RX10_25 hx hb hown hE hP 3 rfl rfl dX10_layLengths_147 ?_
  refine lv_iload_n hx hb dX10_layLengths_150 rfl (lv_at hl 3 rfl) ?_
  refine lv_iload_n hx hb dX10_layLengths_151 rfl (lv_at hl 1 rfl) ?_
  refine lv_ldc (v := 200000) hx hb hown (e1464 hE) dX10_layLengths_152 ?_
  refine x_mmin (v := 0) hx hb (by rw [hml]; exact hl.1.symm) hown (e1465 hE) (e362 hE) (e9 hE) (e363 hE) (Nat.le_of_ble_eq_true rfl) (Nat.le_of_ble_eq_true rfl) (Nat.le_of_ble_eq_true rfl) (Nat.le_of_ble_eq_true rfl) (by decide) dX10_layLengths_154 ?_
  refine x_iast_same hx hb hE hP hD hS 0 rfl 3 (x_in (by decide)) (by decide) ((pk_un (by decide)).trans hf54) dX10_layLengths_157 (fun H locs hP hD hS => ?_)
  refine lv_iinc (v := 4) (lv' := [(1, .int 4), (4, .int 0), (3, .int 0), (2, .int 0), (5, .int 0), (0, .ref q1)]) hx hb dX10_layLengths_158 hl (k := 3) rfl (by decide) (by decide) rfl (fun ls hl => ?_)
  refine lv_goto (tgt := 2) hx hb dX10_layLengths_161 (by decide) ?_
  refine lv_iload_n hx hb dX10_layLengths_2 rfl (lv_at hl 0 rfl) ?_
  refine lv_bipush (v := 8) hx hb dX10_layLengths_3 (by decide) ?_
  refine lv_icmp_ge (tgt := 164) hx hb dX10_layLengths_5 (by decide) (fun h => absurd h (by decide)) (fun _ => ?_)
  refine lv_iconst (v := 0) hx hb dX10_layLengths_8 (by decide) ?_
  refine lv_istore_n (lv' := [(2, .int 0), (1, .int 4), (4, .int 0), (3, .int 0), (5, .int 0), (0, .ref q1)]) hx hb dX10_layLengths_9 rfl hl (by decide) rfl (fun ls hl => ?_)
  refine lv_iconst (v := 0) hx hb dX10_layLengths_10 (by decide) ?_
  refine lv_istore_n (lv' := [(3, .int 0), (2, .int 0), (1, .int 4), (4, .int 0), (5, .int 0), (0, .ref q1)]) hx hb dX10_layLengths_11 rfl hl (by decide) rfl (fun ls hl => ?_)
  refine lv_iconst (v := 0) hx hb dX10_layLengths_12 (by decide) ?_
  refine lv_istore (lv' := [(4, .int 0), (3, .int 0), (2, .int 0), (1, .int 4), (5, .int 0), (0, .ref q1)]) hx hb dX10_layLengths_13 hl (by decide) rfl (fun ls hl => ?_)
  refine lv_iload hx hb dX10_layLengths_15 (lv_at hl 0 rfl) ?_
  refine lv_aload_n hx hb dX10_layLengths_17 rfl (lv_at hl 5 rfl) ?_
  refine lv_iload_n hx hb dX10_layLengths_18 rfl (lv_at hl 3 rfl) ?_
  refine g_i (wr := [(q48, .inl (g.2 0, 8, .inl (upd f47 0 1))), (q45, .inl (g.2 0, 8, .inl (upd f47 0 x44)))]) (rV (rest := [.int 0]) hx hb hml hown hE hP hD 3 rfl rfl (c210_X10_many l g q1 q39 w3 w4 w5 w6 w7 w8 (.ref q45) (.ref q48) w11 w12 w13 w14 w15 w16 w17 w18 w19 w20 w21 w22 w23 w24 w25 w26 w27 w28 w29 w30 w31 w32 w33 w34 w35 w36 w37 w38 f40 (hf55) H.size) (kV_X10_many hE (e1456 hE) rfl rfl ⟨(Nat.le_of_ble_eq_true rfl), (Nat.le_of_ble_eq_true rfl)⟩) [2, 3] rfl (by decide) rfl hl.1 rfl (lv_room (Nat.le_of_ble_eq_true rfl)) dX10_layLengths_19 ⟨(Nat.le_of_ble_eq_true rfl), (Nat.le_of_ble_eq_true rfl)⟩) hP hD hS hA [2, 3] [0, 1] rfl rfl (by decide) (by decide) (fun u9 H locs hP hD hS => ?_)
  have hP : va_P g.1 vwCl [(q48, .inl (g.2 0, 8, .inl (upd f47 0 1))), (q45, .inl (g.2 0, 8, .inl (upd f47 0 x44))), (q39, .inl (g.2 0, 497, .inl f40)), (q1, .inr (12, [.ref q39, w3, w4, w5, w6, w7, w8, .ref q45, .ref q48, w11, w12, w13, w14, w15, w16, w17, w18, w19, w20, w21, w22, w23, w24, w25, w26, w27, w28, w29, w30, w31, w32, w33, w34, w35, w36, w37, w38]))] H := hP
  have hD : va_D A [(q48, .inl (g.2 0, 8, .inl (upd f47 0 1))), (q45, .inl (g.2 0, 8, .inl (upd f47 0 x44))), (q39, .inl (g.2 0, 497, .inl f40)), (q1, .inr (12, [.ref q39, w3, w4, w5, w6, w7, w8, .ref q45, .ref q48, w11, w12, w13, w14, w15, w16, w17, w18, w19, w20, w21, w22, w23, w24, w25, w26, w27, w28, w29, w30, w31, w32, w33, w34, w35, w36, w37, w38]))] := hD
  refine lv_icmp_ge (tgt := 134) hx hb dX10_layLengths_22 (by decide) (fun _ => ?_) (fun h => absurd (by decide) h)
  refine lv_aload_n hx hb dX10_layLengths_134 rfl (lv_at hl 5 rfl) ?_
  refine gf_RX10_22 hx hb hown hE hP 3 rfl rfl dX10_layLengths_135 ?_
  refine lv_iload_n hx hb dX10_layLengths_138 rfl (lv_at hl 3 rfl) ?_
  refine lv_iload_n hx hb dX10_layLengths_139 rfl (lv_at hl 2 rfl) ?_
  refine lv_ldc (v := 200000) hx hb hown (e1464 hE) dX10_layLengths_140 ?_
  refine x_mmin (v := 0) hx hb (by rw [hml]; exact hl.1.symm) hown (e1465 hE) (e362 hE) (e9 hE) (e363 hE) (Nat.le_of_ble_eq_true rfl) (Nat.le_of_ble_eq_true rfl) (Nat.le_of_ble_eq_true rfl) (Nat.le_of_ble_eq_true rfl) (by decide) dX10_layLengths_142 ?_
  refine x_iast_same hx hb hE hP hD hS 1 rfl 4 (x_in (by decide)) (by decide) ((pk_un (by decide)).trans hf56) dX10_layLengths_145 (fun H locs hP hD hS => ?_)
  refine lv_aload_n hx hb dX10_layLengths_146 rfl (lv_at hl 5 rfl) ?_
  refine gf_RX10_25 hx hb hown hE hP 3 rfl rfl dX10_layLengths_147 ?_
  refine lv_iload_n hx hb dX10_layLengths_150 rfl (lv_at hl 3 rfl) ?_
  refine lv_iload_n hx hb dX10_layLengths_151 rfl (lv_at hl 1 rfl) ?_
  refine lv_ldc (v := 200000) hx hb hown (e1464 hE) dX10_layLengths_152 ?_
  refine x_mmin (v := 0) hx hb (by rw [hml]; exact hl.1.symm) hown (e1465 hE) (e362 hE) (e9 hE) (e363 hE) (Nat.le_of_ble_eq_true rfl) (Nat.le_of_ble_eq_true rfl) (Nat.le_of_ble_eq_true rfl) (Nat.le_of_ble_eq_true rfl) (by decide) dX10_layLengths_154 ?_
  refine x_iast_same hx hb hE hP hD hS 0 rfl 4 (x_in (by decide)) (by decide) ((pk_un (by decide)).trans hf56) dX10_layLengths_157 (fun H locs hP hD hS => ?_)
  refine lv_iinc (v := 5) (lv' := [(1, .int 5), (4, .int 0), (3, .int 0), (2, .int 0), (5, .int 0), (0, .ref q1)]) hx hb dX10_layLengths_158 hl (k := 3) rfl (by decide) (by decide) rfl (fun ls hl => ?_)
  refine lv_goto (tgt := 2) hx hb dX10_layLengths_161 (by decide) ?_
  refine lv_iload_n hx hb dX10_layLengths_2 rfl (lv_at hl 0 rfl) ?_
  refine lv_bipush (v := 8) hx hb dX10_layLengths_3 (by decide) ?_
  refine lv_icmp_ge (tgt := 164) hx hb dX10_layLengths_5 (by decide) (fun h => absurd h (by decide)) (fun _ => ?_)
  refine lv_iconst (v := 0) hx hb dX10_layLengths_8 (by decide) ?_
  refine lv_istore_n (lv' := [(2, .int 0), (1, .int 5), (4, .int 0), (3, .int 0), (5, .int 0), (0, .ref q1)]) hx hb dX10_layLengths_9 rfl hl (by decide) rfl (fun ls hl => ?_)
  refine lv_iconst (v := 0) hx hb dX10_layLengths_10 (by decide) ?_
  refine lv_istore_n (lv' := [(3, .int 0), (2, .int 0), (1, .int 5), (4, .int 0), (5, .int 0), (0, .ref q1)]) hx hb dX10_layLengths_11 rfl hl (by decide) rfl (fun ls hl => ?_)
  refine lv_iconst (v := 0) hx hb dX10_layLengths_12 (by decide) ?_
  refine lv_istore (lv' := [(4, .int 0), (3, .int 0), (2, .int 0), (1, .int 5), (5, .int 0), (0, .ref q1)]) hx hb dX10_layLengths_13 hl (by decide) rfl (fun ls hl => ?_)
  refine lv_iload hx hb dX10_layLengths_15 (lv_at hl 0 rfl) ?_
  refine lv_aload_n hx hb dX10_layLengths_17 rfl (lv_at hl 5 rfl) ?_
  refine lv_iload_n hx hb dX10_layLengths_18 rfl (lv_at hl 3 rfl) ?_
  refine g_i (wr := [(q48, .inl (g.2 0, 8, .inl (upd f47 0 1))), (q45, .inl (g.2 0, 8, .inl (upd f47 0 x44)))]) (rV (rest := [.int 0]) hx hb hml hown hE hP hD 3 rfl rfl (c212_X10_many l g q1 q39 w3 w4 w5 w6 w7 w8 (.ref q45) (.ref q48) w11 w12 w13 w14 w15 w16 w17 w18 w19 w20 w21 w22 w23 w24 w25 w26 w27 w28 w29 w30 w31 w32 w33 w34 w35 w36 w37 w38 f40 (hf57) H.size) (kV_X10_many hE (e1456 hE) rfl rfl ⟨(Nat.le_of_ble_eq_true rfl), (Nat.le_of_ble_eq_true rfl)⟩) [2, 3] rfl (by decide) rfl hl.1 rfl (lv_room (Nat.le_of_ble_eq_true rfl)) dX10_layLengths_19 ⟨(Nat.le_of_ble_eq_true rfl), (Nat.le_of_ble_eq_true rfl)⟩) hP hD hS hA [2, 3] [0, 1] rfl rfl (by decide) (by decide) (fun u10 H locs hP hD hS => ?_)
  have hP : va_P g.1 vwCl [(q48, .inl (g.2 0, 8, .inl (upd f47 0 1))), (q45, .inl (g.2 0, 8, .inl (upd f47 0 x44))), (q39, .inl (g.2 0, 497, .inl f40)), (q1, .inr (12, [.ref q39, w3, w4, w5, w6, w7, w8, .ref q45, .ref q48, w11, w12, w13, w14, w15, w16, w17, w18, w19, w20, w21, w22, w23, w24, w25, w26, w27, w28, w29, w30, w31, w32, w33, w34, w35, w36, w37, w38]))] H := hP
  have hD : va_D A [(q48, .inl (g.2 0, 8, .inl (upd f47 0 1))), (q45, .inl (g.2 0, 8, .inl (upd f47 0 x44))), (q39, .inl (g.2 0, 497, .inl f40)), (q1, .inr (12, [.ref q39, w3, w4, w5, w6, w7, w8, .ref q45, .ref q48, w11, w12, w13, w14, w15, w16, w17, w18, w19, w20, w21, w22, w23, w24, w25, w26, w27, w28, w29, w30, w31, w32, w33, w34, w35, w36, w37, w38]))] := hD
  refine lv_icmp_ge (tgt := 134) hx hb dX10_layLengths_22 (by decide) (fun _ => ?_) (fun h => absurd (by decide) h)
  refine lv_aload_n hx hb dX10_layLengths_134 rfl (lv_at hl 5 rfl) ?_
  refine gf_RX10_22 hx hb hown hE hP 3 rfl rfl dX10_layLengths_135 ?_
  refine lv_iload_n hx hb dX10_layLengths_138 rfl (lv_at hl 3 rfl) ?_
  refine lv_iload_n hx hb dX10_layLengths_139 rfl (lv_at hl 2 rfl) ?_
  refine lv_ldc (v := 200000) hx hb hown (e1464 hE) dX10_layLengths_140 ?_
  refine x_mmin (v := 0) hx hb (by rw [hml]; exact hl.1.symm) hown (e1465 hE) (e362 hE) (e9 hE) (e363 hE) (Nat.le_of_ble_eq_true rfl) (Nat.le_of_ble_eq_true rfl) (Nat.le_of_ble_eq_true rfl) (Nat.le_of_ble_eq_true rfl) (by decide) dX10_layLengths_142 ?_
  refine x_iast_same hx hb hE hP hD hS 1 rfl 5 (x_in (by decide)) (by decide) ((pk_un (by decide)).trans hf58) dX10_layLengths_145 (fun H locs hP hD hS => ?_)
  refine lv_aload_n hx hb dX10_layLengths_146 rfl (lv_at hl 5 rfl) ?_
  refine gf_RX10_25 hx hb hown hE hP 3 rfl rfl dX10_layLengths_147 ?_
  refine lv_iload_n hx hb dX10_layLengths_150 rfl (lv_at hl 3 rfl) ?_
  refine lv_iload_n hx hb dX10_layLengths_151 rfl (lv_at hl 1 rfl) ?_
  refine lv_ldc (v := 200000) hx hb hown (e1464 hE) dX10_layLengths_152 ?_
  refine x_mmin (v := 0) hx hb (by rw [hml]; exact hl.1.symm) hown (e1465 hE) (e362 hE) (e9 hE) (e363 hE) (Nat.le_of_ble_eq_true rfl) (Nat.le_of_ble_eq_true rfl) (Nat.le_of_ble_eq_true rfl) (Nat.le_of_ble_eq_true rfl) (by decide) dX10_layLengths_154 ?_
  refine x_iast_same hx hb hE hP hD hS 0 rfl 5 (x_in (by decide)) (by decide) ((pk_un (by decide)).trans hf58) dX10_layLengths_157 (fun H locs hP hD hS => ?_)
  refine lv_iinc (v := 6) (lv' := [(1, .int 6), (4, .int 0), (3, .int 0), (2, .int 0), (5, .int 0), (0, .ref q1)]) hx hb dX10_layLengths_158 hl (k := 3) rfl (by decide) (by decide) rfl (fun ls hl => ?_)
  refine lv_goto (tgt := 2) hx hb dX10_layLengths_161 (by decide) ?_
  refine lv_iload_n hx hb dX10_layLengths_2 rfl (lv_at hl 0 rfl) ?_
  refine lv_bipush (v := 8) hx hb dX10_layLengths_3 (by decide) ?_
  refine lv_icmp_ge (tgt := 164) hx hb dX10_layLengths_5 (by decide) (fun h => absurd h (by decide)) (fun _ => ?_)
  refine lv_iconst (v := 0) hx hb dX10_layLengths_8 (by decide) ?_
  refine lv_istore_n (lv' := [(2, .int 0), (1, .int 6), (4, .int 0), (3, .int 0), (5, .int 0), (0, .ref q1)]) hx hb dX10_layLengths_9 rfl hl (by decide) rfl (fun ls hl => ?_)
  refine lv_iconst (v := 0) hx hb dX10_layLengths_10 (by decide) ?_
  refine lv_istore_n (lv' := [(3, .int 0), (2, .int 0), (1, .int 6), (4, .int 0), (5, .int 0), (0, .ref q1)]) hx hb dX10_layLengths_11 rfl hl (by decide) rfl (fun ls hl => ?_)
  refine lv_iconst (v := 0) hx hb dX10_layLengths_12 (by decide) ?_
  refine lv_istore (lv' := [(4, .int 0), (3, .int 0), (2, .int 0), (1, .int 6), (5, .int 0), (0, .ref q1)]) hx hb dX10_layLengths_13 hl (by decide) rfl (fun ls hl => ?_)
  refine lv_iload hx hb dX10_layLengths_15 (lv_at hl 0 rfl) ?_
  refine lv_aload_n hx hb dX10_layLengths_17 rfl (lv_at hl 5 rfl) ?_
  refine lv_iload_n hx hb dX10_layLengths_18 rfl (lv_at hl 3 rfl) ?_
  refine g_i (wr := [(q48, .inl (g.2 0, 8, .inl (upd f47 0 1))), (q45, .inl (g.2 0, 8, .inl (upd f47 0 x44)))]) (rV (rest := [.int 0]) hx hb hml hown hE hP hD 3 rfl rfl (c214_X10_many l g q1 q39 w3 w4 w5 w6 w7 w8 (.ref q45) (.ref q48) w11 w12 w13 w14 w15 w16 w17 w18 w19 w20 w21 w22 w23 w24 w25 w26 w27 w28 w29 w30 w31 w32 w33 w34 w35 w36 w37 w38 f40 (hf59) H.size) (kV_X10_many hE (e1456 hE) rfl rfl ⟨(Nat.le_of_ble_eq_true rfl), (Nat.le_of_ble_eq_true rfl)⟩) [2, 3] rfl (by decide) rfl hl.1 rfl (lv_room (Nat.le_of_ble_eq_true rfl)) dX10_layLengths_19 ⟨(Nat.le_of_ble_eq_true rfl), (Nat.le_of_ble_eq_true rfl)⟩) hP hD hS hA [2, 3] [0, 1] rfl rfl (by decide) (by decide) (fun u11 H locs hP hD hS => ?_)
  have hP : va_P g.1 vwCl [(q48, .inl (g.2 0, 8, .inl (upd f47 0 1))), (q45, .inl (g.2 0, 8, .inl (upd f47 0 x44))), (q39, .inl (g.2 0, 497, .inl f40)), (q1, .inr (12, [.ref q39, w3, w4, w5, w6, w7, w8, .ref q45, .ref q48, w11, w12, w13, w14, w15, w16, w17, w18, w19, w20, w21, w22, w23, w24, w25, w26, w27, w28, w29, w30, w31, w32, w33, w34, w35, w36, w37, w38]))] H := hP
  have hD : va_D A [(q48, .inl (g.2 0, 8, .inl (upd f47 0 1))), (q45, .inl (g.2 0, 8, .inl (upd f47 0 x44))), (q39, .inl (g.2 0, 497, .inl f40)), (q1, .inr (12, [.ref q39, w3, w4, w5, w6, w7, w8, .ref q45, .ref q48, w11, w12, w13, w14, w15, w16, w17, w18, w19, w20, w21, w22, w23, w24, w25, w26, w27, w28, w29, w30, w31, w32, w33, w34, w35, w36, w37, w38]))] := hD
  refine lv_icmp_ge (tgt := 134) hx hb dX10_layLengths_22 (by decide) (fun _ => ?_) (fun h => absurd (by decide) h)
  refine lv_aload_n hx hb dX10_layLengths_134 rfl (lv_at hl 5 rfl) ?_
  refine gf_RX10_22 hx hb hown hE hP 3 rfl rfl dX10_layLengths_135 ?_
  refine lv_iload_n hx hb dX10_layLengths_138 rfl (lv_at hl 3 rfl) ?_
  refine lv_iload_n hx hb dX10_layLengths_139 rfl (lv_at hl 2 rfl) ?_
  refine lv_ldc (v := 200000) hx hb hown (e1464 hE) dX10_layLengths_140 ?_
  refine x_mmin (v := 0) hx hb (by rw [hml]; exact hl.1.symm) hown (e1465 hE) (e362 hE) (e9 hE) (e363 hE) (Nat.le_of_ble_eq_true rfl) (Nat.le_of_ble_eq_true rfl) (Nat.le_of_ble_eq_true rfl) (Nat.le_of_ble_eq_true rfl) (by decide) dX10_layLengths_142 ?_
  refine x_iast_same hx hb hE hP hD hS 1 rfl 6 (x_in (by decide)) (by decide) ((pk_un (by decide)).trans hf60) dX10_layLengths_145 (fun H locs hP hD hS => ?_)
  refine lv_aload_n hx hb dX10_layLengths_146 rfl (lv_at hl 5 rfl) ?_
  refine gf_RX10_25 hx hb hown hE hP 3 rfl rfl dX10_layLengths_147 ?_
  refine lv_iload_n hx hb dX10_layLengths_150 rfl (lv_at hl 3 rfl) ?_
  refine lv_iload_n hx hb dX10_layLengths_151 rfl (lv_at hl 1 rfl) ?_
  refine lv_ldc (v := 200000) hx hb hown (e1464 hE) dX10_layLengths_152 ?_
  refine x_mmin (v := 0) hx hb (by rw [hml]; exact hl.1.symm) hown (e1465 hE) (e362 hE) (e9 hE) (e363 hE) (Nat.le_of_ble_eq_true rfl) (Nat.le_of_ble_eq_true rfl) (Nat.le_of_ble_eq_true rfl) (Nat.le_of_ble_eq_true rfl) (by decide) dX10_layLengths_154 ?_
  refine x_iast_same hx hb hE hP hD hS 0 rfl 6 (x_in (by decide)) (by decide) ((pk_un (by decide)).trans hf60) dX10_layLengths_157 (fun H locs hP hD hS => ?_)
  refine lv_iinc (v := 7) (lv' := [(1, .int 7), (4, .int 0), (3, .int 0), (2, .int 0), (5, .int 0), (0, .ref q1)]) hx hb dX10_layLengths_158 hl (k := 3) rfl (by decide) (by decide) rfl (fun ls hl => ?_)
  refine lv_goto (tgt := 2) hx hb dX10_layLengths_161 (by decide) ?_
  refine lv_iload_n hx hb dX10_layLengths_2 rfl (lv_at hl 0 rfl) ?_
  refine lv_bipush (v := 8) hx hb dX10_layLengths_3 (by decide) ?_
  refine lv_icmp_ge (tgt := 164) hx hb dX10_layLengths_5 (by decide) (fun h => absurd h (by decide)) (fun _ => ?_)
  refine lv_iconst (v := 0) hx hb dX10_layLengths_8 (by decide) ?_
  refine lv_istore_n (lv' := [(2, .int 0), (1, .int 7), (4, .int 0), (3, .int 0), (5, .int 0), (0, .ref q1)]) hx hb dX10_layLengths_9 rfl hl (by decide) rfl (fun ls hl => ?_)
  refine lv_iconst (v := 0) hx hb dX10_layLengths_10 (by decide) ?_
  refine lv_istore_n (lv' := [(3, .int 0), (2, .int 0), (1, .int 7), (4, .int 0), (5, .int 0), (0, .ref q1)]) hx hb dX10_layLengths_11 rfl hl (by decide) rfl (fun ls hl => ?_)
  refine lv_iconst (v := 0) hx hb dX10_layLengths_12 (by decide) ?_
  refine lv_istore (lv' := [(4, .int 0), (3, .int 0), (2, .int 0), (1, .int 7), (5, .int 0), (0, .ref q1)]) hx hb dX10_layLengths_13 hl (by decide) rfl (fun ls hl => ?_)
  refine lv_iload hx hb dX10_layLengths_15 (lv_at hl 0 rfl) ?_
  refine lv_aload_n hx hb dX10_layLengths_17 rfl (lv_at hl 5 rfl) ?_
  refine lv_iload_n hx hb dX10_layLengths_18 rfl (lv_at hl 3 rfl) ?_
  refine g_i (wr := [(q48, .inl (g.2 0, 8, .inl (upd f47 0 1))), (q45, .inl (g.2 0, 8, .inl (upd f47 0 x44)))]) (rV (rest := [.int 0]) hx hb hml hown hE hP hD 3 rfl rfl (c216_X10_many l g q1 q39 w3 w4 w5 w6 w7 w8 (.ref q45) (.ref q48) w11 w12 w13 w14 w15 w16 w17 w18 w19 w20 w21 w22 w23 w24 w25 w26 w27 w28 w29 w30 w31 w32 w33 w34 w35 w36 w37 w38 f40 (hf61) H.size) (kV_X10_many hE (e1456 hE) rfl rfl ⟨(Nat.le_of_ble_eq_true rfl), (Nat.le_of_ble_eq_true rfl)⟩) [2, 3] rfl (by decide) rfl hl.1 rfl (lv_room (Nat.le_of_ble_eq_true rfl)) dX10_layLengths_19 ⟨(Nat.le_of_ble_eq_true rfl), (Nat.le_of_ble_eq_true rfl)⟩) hP hD hS hA [2, 3] [0, 1] rfl rfl (by decide) (by decide) (fun u12 H locs hP hD hS => ?_)
  have hP : va_P g.1 vwCl [(q48, .inl (g.2 0, 8, .inl (upd f47 0 1))), (q45, .inl (g.2 0, 8, .inl (upd f47 0 x44))), (q39, .inl (g.2 0, 497, .inl f40)), (q1, .inr (12, [.ref q39, w3, w4, w5, w6, w7, w8, .ref q45, .ref q48, w11, w12, w13, w14, w15, w16, w17, w18, w19, w20, w21, w22, w23, w24, w25, w26, w27, w28, w29, w30, w31, w32, w33, w34, w35, w36, w37, w38]))] H := hP
  have hD : va_D A [(q48, .inl (g.2 0, 8, .inl (upd f47 0 1))), (q45, .inl (g.2 0, 8, .inl (upd f47 0 x44))), (q39, .inl (g.2 0, 497, .inl f40)), (q1, .inr (12, [.ref q39, w3, w4, w5, w6, w7, w8, .ref q45, .ref q48, w11, w12, w13, w14, w15, w16, w17, w18, w19, w20, w21, w22, w23, w24, w25, w26, w27, w28, w29, w30, w31, w32, w33, w34, w35, w36, w37, w38]))] := hD
  refine lv_icmp_ge (tgt := 134) hx hb dX10_layLengths_22 (by decide) (fun _ => ?_) (fun h => absurd (by decide) h)
  refine lv_aload_n hx hb dX10_layLengths_134 rfl (lv_at hl 5 rfl) ?_
  refine gf_RX10_22 hx hb hown hE hP 3 rfl rfl dX10_layLengths_135 ?_
  refine lv_iload_n hx hb dX10_layLengths_138 rfl (lv_at hl 3 rfl) ?_
  refine lv_iload_n hx hb dX10_layLengths_139 rfl (lv_at hl 2 rfl) ?_
  refine lv_ldc (v := 200000) hx hb hown (e1464 hE) dX10_layLengths_140 ?_
  refine x_mmin (v := 0) hx hb (by rw [hml]; exact hl.1.symm) hown (e1465 hE) (e362 hE) (e9 hE) (e363 hE) (Nat.le_of_ble_eq_true rfl) (Nat.le_of_ble_eq_true rfl) (Nat.le_of_ble_eq_true rfl) (Nat.le_of_ble_eq_true rfl) (by decide) dX10_layLengths_142 ?_
  refine x_iast_same hx hb hE hP hD hS 1 rfl 7 (x_in (by decide)) (by decide) ((pk_un (by decide)).trans hf62) dX10_layLengths_145 (fun H locs hP hD hS => ?_)
  refine lv_aload_n hx hb dX10_layLengths_146 rfl (lv_at hl 5 rfl) ?_
  refine gf_RX10_25 hx hb hown hE hP 3 rfl rfl dX10_layLengths_147 ?_
  refine lv_iload_n hx hb dX10_layLengths_150 rfl (lv_at hl 3 rfl) ?_
  refine lv_iload_n hx hb dX10_layLengths_151 rfl (lv_at hl 1 rfl) ?_
  refine lv_ldc (v := 200000) hx hb hown (e1464 hE) dX10_layLengths_152 ?_
  refine x_mmin (v := 0) hx hb (by rw [hml]; exact hl.1.symm) hown (e1465 hE) (e362 hE) (e9 hE) (e363 hE) (Nat.le_of_ble_eq_true rfl) (Nat.le_of_ble_eq_true rfl) (Nat.le_of_ble_eq_true rfl) (Nat.le_of_ble_eq_true rfl) (by decide) dX10_layLengths_154 ?_
  refine x_iast_same hx hb hE hP hD hS 0 rfl 7 (x_in (by decide)) (by decide) ((pk_un (by decide)).trans hf62) dX10_layLengths_157 (fun H locs hP hD hS => ?_)
  refine lv_iinc (v := 8) (lv' := [(1, .int 8), (4, .int 0), (3, .int 0), (2, .int 0), (5, .int 0), (0, .ref q1)]) hx hb dX10_layLengths_158 hl (k := 3) rfl (by decide) (by decide) rfl (fun ls hl => ?_)
  refine lv_goto (tgt := 2) hx hb dX10_layLengths_161 (by decide) ?_
  refine lv_iload_n hx hb dX10_layLengths_2 rfl (lv_at hl 0 rfl) ?_
  refine lv_bipush (v := 8) hx hb dX10_layLengths_3 (by decide) ?_
  refine lv_icmp_ge (tgt := 164) hx hb dX10_layLengths_5 (by decide) (fun _ => ?_) (fun h => absurd (by decide) h)
  exact x_vret hx hb hr hlocks hP hD hS hAe hsz (Nat.le_of_ble_eq_true rfl) (Nat.le_of_ble_eq_true rfl) (fun _ => 0) [0, 1, 2, 3] (by decide) rfl dX10_layLengths_164

set_option maxHeartbeats 4000000 in
set_option maxRecDepth 100000 in
theorem c218_X10_isTooGreat (l : Launch) (g : gG) (q1 q39 q45 q48 : Nat) (x44 : Int32) (w3 w4 w5 w6 w7 w8 w11 w12 w13 w14 w15 w16 w17 w18 w19 w20 w21 w22 w23 w24 w25 w26 w27 w28 w29 w30 w31 w32 w33 w34 w35 w36 w37 w38 : Value) (f40 : Nat → Int32) (f47 : Nat → Int32) (hf41 : f40 0 = 1) (hf42 : f40 1 = 0) (hf43 : f40 3 = x44) (hf49 : f40 49 = 0) (hf50 : f47 1 = 0) (hf51 : f40 98 = 0) (hf52 : f47 2 = 0) (hf53 : f40 147 = 0) (hf54 : f47 3 = 0) (hf55 : f40 196 = 0) (hf56 : f47 4 = 0) (hf57 : f40 245 = 0) (hf58 : f47 5 = 0) (hf59 : f40 294 = 0) (hf60 : f47 6 = 0) (hf61 : f40 343 = 0) (hf62 : f47 7 = 0) (hf64 : f40 392 = 0) (h46 : x44 ≤ 200000) (h63 : x44 ≤ 20000) (sz : Nat) : Met l yX10_isTooGreat [Cond.code yX10_isTooGreat cX10_isTooGreat 4 (some .boolean)] ({ frames := 3, cells := 0, slots := 0, locals := 68 } : Room) (va_Pc [.ref q1] (PX g sz [(q48, .inl (g.2 0, 8, .inl f47)), (q45, .inl (g.2 0, 8, .inl f47)), (q39, .inl (g.2 0, 497, .inl f40)), (q1, .inr (12, [.ref q39, w3, w4, w5, w6, w7, w8, .ref q45, .ref q48, w11, w12, w13, w14, w15, w16, w17, w18, w19, w20, w21, w22, w23, w24, w25, w26, w27, w28, w29, w30, w31, w32, w33, w34, w35, w36, w37, w38]))])) (QI g [(q48, .inl (g.2 0, 8, .inl f47)), (q45, .inl (g.2 0, 8, .inl f47)), (q39, .inl (g.2 0, 497, .inl f40)), (q1, .inr (12, [.ref q39, w3, w4, w5, w6, w7, w8, .ref q45, .ref q48, w11, w12, w13, w14, w15, w16, w17, w18, w19, w20, w21, w22, w23, w24, w25, w26, w27, w28, w29, w30, w31, w32, w33, w34, w35, w36, w37, w38]))] sz 0 (fun _ => [(q48, .inl (g.2 0, 8, .inl (upd f47 0 1))), (q45, .inl (g.2 0, 8, .inl (upd f47 0 x44))), (q39, .inl (g.2 0, 497, .inl f40)), (q1, .inr (12, [.ref q39, w3, w4, w5, w6, w7, w8, .ref q45, .ref q48, w11, w12, w13, w14, w15, w16, w17, w18, w19, w20, w21, w22, w23, w24, w25, w26, w27, w28, w29, w30, w31, w32, w33, w34, w35, w36, w37, w38]))])) 0 0 (va_A [(q48, .inl (g.2 0, 8, .inl f47)), (q45, .inl (g.2 0, 8, .inl f47)), (q39, .inl (g.2 0, 497, .inl f40)), (q1, .inr (12, [.ref q39, w3, w4, w5, w6, w7, w8, .ref q45, .ref q48, w11, w12, w13, w14, w15, w16, w17, w18, w19, w20, w21, w22, w23, w24, w25, w26, w27, w28, w29, w30, w31, w32, w33, w34, w35, w36, w37, w38]))] sz) := by
  refine ofN (by decide) (Nat.le_of_ble_eq_true rfl) rfl ?_
  intro p e s m args below meth c A ls hAe hsz hx hb hml hr hlocks hin hown hE hP hD hA hS hl
  have hown : s.vm.findClass RX10 = some m.cls := hown
  refine lv_aload_n hx hb dX10_isTooGreat_0 rfl (lv_at hl 0 rfl) ?_
  refine g_v (wr := []) (rV (rest := []) hx hb hml hown hE hP hD 3 rfl rfl (c217_X10_layLengths l g q1 q39 q45 q48 x44 w3 w4 w5 w6 w7 w8 w11 w12 w13 w14 w15 w16 w17 w18 w19 w20 w21 w22 w23 w24 w25 w26 w27 w28 w29 w30 w31 w32 w33 w34 w35 w36 w37 w38 f40 f47 (hf41) (hf42) (hf43) (hf49) (hf50) (hf51) (hf52) (hf53) (hf54) (hf55) (hf56) (hf57) (hf58) (hf59) (hf60) (hf61) (hf62) h46 s.heap.size) (kV_X10_layLengths hE (e1452 hE) rfl rfl ⟨(Nat.le_of_ble_eq_true rfl), (Nat.le_of_ble_eq_true rfl)⟩) [0, 1, 2, 3] rfl (by decide) rfl hl.1 rfl (lv_room (Nat.le_of_ble_eq_true rfl)) dX10_isTooGreat_1 ⟨(Nat.le_of_ble_eq_true rfl), (Nat.le_of_ble_eq_true rfl)⟩) hP hD hS hA [0, 1, 2, 3] [] rfl rfl (by decide) (by decide) (fun u1 H locs hP hD hS => ?_)
  have hP : va_P g.1 vwCl [(q48, .inl (g.2 0, 8, .inl (upd f47 0 1))), (q45, .inl (g.2 0, 8, .inl (upd f47 0 x44))), (q39, .inl (g.2 0, 497, .inl f40)), (q1, .inr (12, [.ref q39, w3, w4, w5, w6, w7, w8, .ref q45, .ref q48, w11, w12, w13, w14, w15, w16, w17, w18, w19, w20, w21, w22, w23, w24, w25, w26, w27, w28, w29, w30, w31, w32, w33, w34, w35, w36, w37, w38]))] H := hP
  have hD : va_D A [(q48, .inl (g.2 0, 8, .inl (upd f47 0 1))), (q45, .inl (g.2 0, 8, .inl (upd f47 0 x44))), (q39, .inl (g.2 0, 497, .inl f40)), (q1, .inr (12, [.ref q39, w3, w4, w5, w6, w7, w8, .ref q45, .ref q48, w11, w12, w13, w14, w15, w16, w17, w18, w19, w20, w21, w22, w23, w24, w25, w26, w27, w28, w29, w30, w31, w32, w33, w34, w35, w36, w37, w38]))] := hD
  refine lv_iconst (v := 0) hx hb dX10_isTooGreat_4 (by decide) ?_
  refine lv_istore_n (lv' := [(1, .int 0), (0, .ref q1)]) hx hb dX10_isTooGreat_5 rfl hl (by decide) rfl (fun ls hl => ?_)
  refine lv_iconst (v := 0) hx hb dX10_isTooGreat_6 (by decide) ?_
  refine lv_istore_n (lv' := [(2, .int 0), (1, .int 0), (0, .ref q1)]) hx hb dX10_isTooGreat_7 rfl hl (by decide) rfl (fun ls hl => ?_)
  refine lv_iload_n hx hb dX10_isTooGreat_8 rfl (lv_at hl 0 rfl) ?_
  refine lv_bipush (v := 8) hx hb dX10_isTooGreat_9 (by decide) ?_
  refine lv_icmp_ge (tgt := 40) hx hb dX10_isTooGreat_11 (by decide) (fun h => absurd h (by decide)) (fun _ => ?_)
  refine lv_iload_n hx hb dX10_isTooGreat_14 rfl (lv_at hl 1 rfl) ?_
  refine lv_aload_n hx hb dX10_isTooGreat_15 rfl (lv_at hl 2 rfl) ?_
  refine gf_RX10_22 hx hb hown hE hP 3 rfl rfl dX10_isTooGreat_16 ?_
  refine lv_iload_n hx hb dX10_isTooGreat_19 rfl (lv_at hl 0 rfl) ?_
  refine x_iald (v := x44) hx hb hE hP 1 rfl 0 (x_in (by decide)) (by decide) pk_us dX10_isTooGreat_20 ?_
  refine lv_sipush (v := 20000) hx hb dX10_isTooGreat_21 (by decide) ?_
  refine lv_icmp_le (tgt := 31) hx hb dX10_isTooGreat_24 (by decide) (fun _ => ?_) (fun h => absurd h63 h)
  refine lv_iconst (v := 0) hx hb dX10_isTooGreat_31 (by decide) ?_
  refine x_ior (v := 0) hx hb dX10_isTooGreat_32 (by decide) ?_
  refine lv_istore_n (lv' := [(1, .int 0), (2, .int 0), (0, .ref q1)]) hx hb dX10_isTooGreat_33 rfl hl (by decide) rfl (fun ls hl => ?_)
  refine lv_iinc (v := 1) (lv' := [(2, .int 1), (1, .int 0), (0, .ref q1)]) hx hb dX10_isTooGreat_34 hl (k := 1) rfl (by decide) (by decide) rfl (fun ls hl => ?_)
  refine lv_goto (tgt := 8) hx hb dX10_isTooGreat_37 (by decide) ?_
  refine lv_iload_n hx hb dX10_isTooGreat_8 rfl (lv_at hl 0 rfl) ?_
  refine lv_bipush (v := 8) hx hb dX10_isTooGreat_9 (by decide) ?_
  refine lv_icmp_ge (tgt := 40) hx hb dX10_isTooGreat_11 (by decide) (fun h => absurd h (by decide)) (fun _ => ?_)
  refine lv_iload_n hx hb dX10_isTooGreat_14 rfl (lv_at hl 1 rfl) ?_
  refine lv_aload_n hx hb dX10_isTooGreat_15 rfl (lv_at hl 2 rfl) ?_
  refine gf_RX10_22 hx hb hown hE hP 3 rfl rfl dX10_isTooGreat_16 ?_
  refine lv_iload_n hx hb dX10_isTooGreat_19 rfl (lv_at hl 0 rfl) ?_
  refine x_iald (v := 0) hx hb hE hP 1 rfl 1 (x_in (by decide)) (by decide) ((pk_un (by decide)).trans hf50) dX10_isTooGreat_20 ?_
  refine lv_sipush (v := 20000) hx hb dX10_isTooGreat_21 (by decide) ?_
  refine lv_icmp_le (tgt := 31) hx hb dX10_isTooGreat_24 (by decide) (fun _ => ?_) (fun h => absurd (by decide) h)
  refine lv_iconst (v := 0) hx hb dX10_isTooGreat_31 (by decide) ?_
  refine x_ior (v := 0) hx hb dX10_isTooGreat_32 (by decide) ?_
  refine lv_istore_n (lv' := [(1, .int 0), (2, .int 1), (0, .ref q1)]) hx hb dX10_isTooGreat_33 rfl hl (by decide) rfl (fun ls hl => ?_)
  refine lv_iinc (v := 2) (lv' := [(2, .int 2), (1, .int 0), (0, .ref q1)]) hx hb dX10_isTooGreat_34 hl (k := 1) rfl (by decide) (by decide) rfl (fun ls hl => ?_)
  refine lv_goto (tgt := 8) hx hb dX10_isTooGreat_37 (by decide) ?_
  refine lv_iload_n hx hb dX10_isTooGreat_8 rfl (lv_at hl 0 rfl) ?_
  refine lv_bipush (v := 8) hx hb dX10_isTooGreat_9 (by decide) ?_
  refine lv_icmp_ge (tgt := 40) hx hb dX10_isTooGreat_11 (by decide) (fun h => absurd h (by decide)) (fun _ => ?_)
  refine lv_iload_n hx hb dX10_isTooGreat_14 rfl (lv_at hl 1 rfl) ?_
  refine lv_aload_n hx hb dX10_isTooGreat_15 rfl (lv_at hl 2 rfl) ?_
  refine gf_RX10_22 hx hb hown hE hP 3 rfl rfl dX10_isTooGreat_16 ?_
  refine lv_iload_n hx hb dX10_isTooGreat_19 rfl (lv_at hl 0 rfl) ?_
  refine x_iald (v := 0) hx hb hE hP 1 rfl 2 (x_in (by decide)) (by decide) ((pk_un (by decide)).trans hf52) dX10_isTooGreat_20 ?_
  refine lv_sipush (v := 20000) hx hb dX10_isTooGreat_21 (by decide) ?_
  refine lv_icmp_le (tgt := 31) hx hb dX10_isTooGreat_24 (by decide) (fun _ => ?_) (fun h => absurd (by decide) h)
  refine lv_iconst (v := 0) hx hb dX10_isTooGreat_31 (by decide) ?_
  refine x_ior (v := 0) hx hb dX10_isTooGreat_32 (by decide) ?_
  refine lv_istore_n (lv' := [(1, .int 0), (2, .int 2), (0, .ref q1)]) hx hb dX10_isTooGreat_33 rfl hl (by decide) rfl (fun ls hl => ?_)
  refine lv_iinc (v := 3) (lv' := [(2, .int 3), (1, .int 0), (0, .ref q1)]) hx hb dX10_isTooGreat_34 hl (k := 1) rfl (by decide) (by decide) rfl (fun ls hl => ?_)
  refine lv_goto (tgt := 8) hx hb dX10_isTooGreat_37 (by decide) ?_
  refine lv_iload_n hx hb dX10_isTooGreat_8 rfl (lv_at hl 0 rfl) ?_
  refine lv_bipush (v := 8) hx hb dX10_isTooGreat_9 (by decide) ?_
  refine lv_icmp_ge (tgt := 40) hx hb dX10_isTooGreat_11 (by decide) (fun h => absurd h (by decide)) (fun _ => ?_)
  refine lv_iload_n hx hb dX10_isTooGreat_14 rfl (lv_at hl 1 rfl) ?_
  refine lv_aload_n hx hb dX10_isTooGreat_15 rfl (lv_at hl 2 rfl) ?_
  refine gf_RX10_22 hx hb hown hE hP 3 rfl rfl dX10_isTooGreat_16 ?_
  refine lv_iload_n hx hb dX10_isTooGreat_19 rfl (lv_at hl 0 rfl) ?_
  refine x_iald (v := 0) hx hb hE hP 1 rfl 3 (x_in (by decide)) (by decide) ((pk_un (by decide)).trans hf54) dX10_isTooGreat_20 ?_
  refine lv_sipush (v := 20000) hx hb dX10_isTooGreat_21 (by decide) ?_
  refine lv_icmp_le (tgt := 31) hx hb dX10_isTooGreat_24 (by decide) (fun _ => ?_) (fun h => absurd (by decide) h)
  refine lv_iconst (v := 0) hx hb dX10_isTooGreat_31 (by decide) ?_
  refine x_ior (v := 0) hx hb dX10_isTooGreat_32 (by decide) ?_
  refine lv_istore_n (lv' := [(1, .int 0), (2, .int 3), (0, .ref q1)]) hx hb dX10_isTooGreat_33 rfl hl (by decide) rfl (fun ls hl => ?_)
  refine lv_iinc (v := 4) (lv' := [(2, .int 4), (1, .int 0), (0, .ref q1)]) hx hb dX10_isTooGreat_34 hl (k := 1) rfl (by decide) (by decide) rfl (fun ls hl => ?_)
  refine lv_goto (tgt := 8) hx hb dX10_isTooGreat_37 (by decide) ?_
  refine lv_iload_n hx hb dX10_isTooGreat_8 rfl (lv_at hl 0 rfl) ?_
  refine lv_bipush (v := 8) hx hb dX10_isTooGreat_9 (by decide) ?_
  refine lv_icmp_ge (tgt := 40) hx hb dX10_isTooGreat_11 (by decide) (fun h => absurd h (by decide)) (fun _ => ?_)
  refine lv_iload_n hx hb dX10_isTooGreat_14 rfl (lv_at hl 1 rfl) ?_
  refine lv_aload_n hx hb dX10_isTooGreat_15 rfl (lv_at hl 2 rfl) ?_
  refine gf_RX10_22 hx hb hown hE hP 3 rfl rfl dX10_isTooGreat_16 ?_
  refine lv_iload_n hx hb dX10_isTooGreat_19 rfl (lv_at hl 0 rfl) ?_
  refine x_iald (v := 0) hx hb hE hP 1 rfl 4 (x_in (by decide)) (by decide) ((pk_un (by decide)).trans hf56) dX10_isTooGreat_20 ?_
  refine lv_sipush (v := 20000) hx hb dX10_isTooGreat_21 (by decide) ?_
  refine lv_icmp_le (tgt := 31) hx hb dX10_isTooGreat_24 (by decide) (fun _ => ?_) (fun h => absurd (by decide) h)
  refine lv_iconst (v := 0) hx hb dX10_isTooGreat_31 (by decide) ?_
  refine x_ior (v := 0) hx hb dX10_isTooGreat_32 (by decide) ?_
  refine lv_istore_n (lv' := [(1, .int 0), (2, .int 4), (0, .ref q1)]) hx hb dX10_isTooGreat_33 rfl hl (by decide) rfl (fun ls hl => ?_)
  refine lv_iinc (v := 5) (lv' := [(2, .int 5), (1, .int 0), (0, .ref q1)]) hx hb dX10_isTooGreat_34 hl (k := 1) rfl (by decide) (by decide) rfl (fun ls hl => ?_)
  refine lv_goto (tgt := 8) hx hb dX10_isTooGreat_37 (by decide) ?_
  refine lv_iload_n hx hb dX10_isTooGreat_8 rfl (lv_at hl 0 rfl) ?_
  refine lv_bipush (v := 8) hx hb dX10_isTooGreat_9 (by decide) ?_
  refine lv_icmp_ge (tgt := 40) hx hb dX10_isTooGreat_11 (by decide) (fun h => absurd h (by decide)) (fun _ => ?_)
  refine lv_iload_n hx hb dX10_isTooGreat_14 rfl (lv_at hl 1 rfl) ?_
  refine lv_aload_n hx hb dX10_isTooGreat_15 rfl (lv_at hl 2 rfl) ?_
  refine gf_RX10_22 hx hb hown hE hP 3 rfl rfl dX10_isTooGreat_16 ?_
  refine lv_iload_n hx hb dX10_isTooGreat_19 rfl (lv_at hl 0 rfl) ?_
  refine x_iald (v := 0) hx hb hE hP 1 rfl 5 (x_in (by decide)) (by decide) ((pk_un (by decide)).trans hf58) dX10_isTooGreat_20 ?_
  refine lv_sipush (v := 20000) hx hb dX10_isTooGreat_21 (by decide) ?_
  refine lv_icmp_le (tgt := 31) hx hb dX10_isTooGreat_24 (by decide) (fun _ => ?_) (fun h => absurd (by decide) h)
  refine lv_iconst (v := 0) hx hb dX10_isTooGreat_31 (by decide) ?_
  refine x_ior (v := 0) hx hb dX10_isTooGreat_32 (by decide) ?_
  refine lv_istore_n (lv' := [(1, .int 0), (2, .int 5), (0, .ref q1)]) hx hb dX10_isTooGreat_33 rfl hl (by decide) rfl (fun ls hl => ?_)
  refine lv_iinc (v := 6) (lv' := [(2, .int 6), (1, .int 0), (0, .ref q1)]) hx hb dX10_isTooGreat_34 hl (k := 1) rfl (by decide) (by decide) rfl (fun ls hl => ?_)
  refine lv_goto (tgt := 8) hx hb dX10_isTooGreat_37 (by decide) ?_
  refine lv_iload_n hx hb dX10_isTooGreat_8 rfl (lv_at hl 0 rfl) ?_
  refine lv_bipush (v := 8) hx hb dX10_isTooGreat_9 (by decide) ?_
  refine lv_icmp_ge (tgt := 40) hx hb dX10_isTooGreat_11 (by decide) (fun h => absurd h (by decide)) (fun _ => ?_)
  refine lv_iload_n hx hb dX10_isTooGreat_14 rfl (lv_at hl 1 rfl) ?_
  refine lv_aload_n hx hb dX10_isTooGreat_15 rfl (lv_at hl 2 rfl) ?_
  refine gf_RX10_22 hx hb hown hE hP 3 rfl rfl dX10_isTooGreat_16 ?_
  refine lv_iload_n hx hb dX10_isTooGreat_19 rfl (lv_at hl 0 rfl) ?_
  refine x_iald (v := 0) hx hb hE hP 1 rfl 6 (x_in (by decide)) (by decide) ((pk_un (by decide)).trans hf60) dX10_isTooGreat_20 ?_
  refine lv_sipush (v := 20000) hx hb dX10_isTooGreat_21 (by decide) ?_
  refine lv_icmp_le (tgt := 31) hx hb dX10_isTooGreat_24 (by decide) (fun _ => ?_) (fun h => absurd (by decide) h)
  refine lv_iconst (v := 0) hx hb dX10_isTooGreat_31 (by decide) ?_
  refine x_ior (v := 0) hx hb dX10_isTooGreat_32 (by decide) ?_
  refine lv_istore_n (lv' := [(1, .int 0), (2, .int 6), (0, .ref q1)]) hx hb dX10_isTooGreat_33 rfl hl (by decide) rfl (fun ls hl => ?_)
  refine lv_iinc (v := 7) (lv' := [(2, .int 7), (1, .int 0), (0, .ref q1)]) hx hb dX10_isTooGreat_34 hl (k := 1) rfl (by decide) (by decide) rfl (fun ls hl => ?_)
  refine lv_goto (tgt := 8) hx hb dX10_isTooGreat_37 (by decide) ?_
  refine lv_iload_n hx hb dX10_isTooGreat_8 rfl (lv_at hl 0 rfl) ?_
  refine lv_bipush (v := 8) hx hb dX10_isTooGreat_9 (by decide) ?_
  refine lv_icmp_ge (tgt := 40) hx hb dX10_isTooGreat_11 (by decide) (fun h => absurd h (by decide)) (fun _ => ?_)
  refine lv_iload_n hx hb dX10_isTooGreat_14 rfl (lv_at hl 1 rfl) ?_
  refine lv_aload_n hx hb dX10_isTooGreat_15 rfl (lv_at hl 2 rfl) ?_
  refine gf_RX10_22 hx hb hown hE hP 3 rfl rfl dX10_isTooGreat_16 ?_
  refine lv_iload_n hx hb dX10_isTooGreat_19 rfl (lv_at hl 0 rfl) ?_
  refine x_iald (v := 0) hx hb hE hP 1 rfl 7 (x_in (by decide)) (by decide) ((pk_un (by decide)).trans hf62) dX10_isTooGreat_20 ?_
  refine lv_sipush (v := 20000) hx hb dX10_isTooGreat_21 (by decide) ?_
  refine lv_icmp_le (tgt := 31) hx hb dX10_isTooGreat_24 (by decide) (fun _ => ?_) (fun h => absurd (by decide) h)
  refine lv_iconst (v := 0) hx hb dX10_isTooGreat_31 (by decide) ?_
  refine x_ior (v := 0) hx hb dX10_isTooGreat_32 (by decide) ?_
  refine lv_istore_n (lv' := [(1, .int 0), (2, .int 7), (0, .ref q1)]) hx hb dX10_isTooGreat_33 rfl hl (by decide) rfl (fun ls hl => ?_)
  refine lv_iinc (v := 8) (lv' := [(2, .int 8), (1, .int 0), (0, .ref q1)]) hx hb dX10_isTooGreat_34 hl (k := 1) rfl (by decide) (by decide) rfl (fun ls hl => ?_)
  refine lv_goto (tgt := 8) hx hb dX10_isTooGreat_37 (by decide) ?_
  refine lv_iload_n hx hb dX10_isTooGreat_8 rfl (lv_at hl 0 rfl) ?_
  refine lv_bipush (v := 8) hx hb dX10_isTooGreat_9 (by decide) ?_
  refine lv_icmp_ge (tgt := 40) hx hb dX10_isTooGreat_11 (by decide) (fun _ => ?_) (fun h => absurd (by decide) h)
  refine lv_iconst (v := 0) hx hb dX10_isTooGreat_40 (by decide) ?_
  refine lv_istore_n (lv' := [(2, .int 0), (1, .int 0), (0, .ref q1)]) hx hb dX10_isTooGreat_41 rfl hl (by decide) rfl (fun ls hl => ?_)
  refine lv_iconst (v := 0) hx hb dX10_isTooGreat_42 (by decide) ?_
  refine lv_istore_n (lv' := [(3, .int 0), (2, .int 0), (1, .int 0), (0, .ref q1)]) hx hb dX10_isTooGreat_43 rfl hl (by decide) rfl (fun ls hl => ?_)
  refine lv_iload_n hx hb dX10_isTooGreat_44 rfl (lv_at hl 0 rfl) ?_
  refine lv_aload_n hx hb dX10_isTooGreat_45 rfl (lv_at hl 3 rfl) ?_
  refine gf_RX10_9 hx hb hown hE hP 3 rfl rfl dX10_isTooGreat_46 ?_
  refine lv_sipush (v := 392) hx hb dX10_isTooGreat_49 (by decide) ?_
  refine x_iald (v := 0) hx hb hE hP 2 rfl 392 (x_in (by decide)) (by decide) hf64 dX10_isTooGreat_52 ?_
  refine lv_icmp_ge (tgt := 115) hx hb dX10_isTooGreat_53 (by decide) (fun _ => ?_) (fun h => absurd (by decide) h)
  refine lv_iload_n hx hb dX10_isTooGreat_115 rfl (lv_at hl 2 rfl) ?_
  refine lv_if_ne (tgt := 126) hx hb dX10_isTooGreat_116 (by decide) (fun h => absurd h (by decide)) (fun _ => ?_)
  refine lv_iload_n hx hb dX10_isTooGreat_119 rfl (lv_at hl 1 rfl) ?_
  refine lv_sipush (v := 300) hx hb dX10_isTooGreat_120 (by decide) ?_
  refine lv_icmp_le (tgt := 130) hx hb dX10_isTooGreat_123 (by decide) (fun _ => ?_) (fun h => absurd (by decide) h)
  refine lv_iconst (v := 0) hx hb dX10_isTooGreat_130 (by decide) ?_
  exact x_zret hx hb hr rfl rfl hlocks hP hD hS hAe hsz (Nat.le_of_ble_eq_true rfl) (Nat.le_of_ble_eq_true rfl) (fun _ => 0) [0, 1, 2, 3] (by decide) rfl dX10_isTooGreat_131
