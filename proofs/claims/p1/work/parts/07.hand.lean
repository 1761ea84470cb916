set_option maxHeartbeats 4000000 in
set_option maxRecDepth 100000 in
/-- Arrays.fill of a row of ints -/
theorem h_fill (l : Launch) (g : gG) (q1 n1 : Nat) (v1 : Int32) (f1 : Nat → Int32) (hn : n1 < 2 ^ 31) (sz : Nat) : Met l yJ7_fill_53178 [Cond.code yJ7_fill_53178 cJ7_fill_53178 4 none] ({ frames := 0, cells := 0, slots := 0, locals := 0 } : Room) (va_Pc [.ref q1, .int v1] (PX g sz [(q1, .inl (g.2 0, n1, .inl f1))])) (QV g [(q1, .inl (g.2 0, n1, .inl f1))] sz (fun _ => [(q1, .inl (g.2 0, n1, .inl (fillF n1 v1 f1)))])) 0 0 (va_A [(q1, .inl (g.2 0, n1, .inl f1))] sz) := by
  refine ofN (by decide) (Nat.le_of_ble_eq_true rfl) rfl ?_
  intro p e s m args below meth c A ls hAe hsz hx hb hml hr hlocks hin hown hE hP hD hA hS hl
  refine lv_iconst (v := 0) hx hb dJ7_fill_53178_0 (by decide) ?_
  refine lv_istore_n (lv' := [(2, .int 0), (0, .ref q1), (1, .int v1)]) hx hb dJ7_fill_53178_1 rfl hl (by decide) rfl (fun ls hl => ?_)
  refine lv_aload_n hx hb dJ7_fill_53178_2 rfl (lv_at hl 1 rfl) ?_
  refine x_aleni (v := nI n1) hx hb hE hP 0 rfl rfl dJ7_fill_53178_3 ?_
  refine lv_istore_n (lv' := [(3, .int (nI n1)), (2, .int 0), (0, .ref q1), (1, .int v1)]) hx hb dJ7_fill_53178_4 rfl hl (by decide) rfl (fun ls hl => ?_)
  refine x_loop (N := n1) (fun i H locs ls => va_P g.1 vwCl [(q1, .inl (g.2 0, n1, .inl (fillF i v1 f1)))] H ∧ va_D A [(q1, .inl (g.2 0, n1, .inl (fillF i v1 f1)))] ∧ va_S A s.heap H locs ∧ lv_has ls 4 [(3, .int (nI n1)), (2, .int (nI i)), (0, .ref q1), (1, .int v1)]) ⟨by rw [fillF_0]; exact hP, by rw [fillF_0]; exact hD, hS, by rw [nI_0]; exact hl⟩ (by
    intro i hi ih H locs ls hI
    obtain ⟨hP, hD, hS, hl⟩ := hI
    refine lv_iload_n hx hb dJ7_fill_53178_5 rfl (lv_at hl 1 rfl) ?_
    refine lv_iload_n hx hb dJ7_fill_53178_6 rfl (lv_at hl 0 rfl) ?_
    refine lv_icmp_ge (tgt := 20) hx hb dJ7_fill_53178_7 (by decide) (fun h => absurd h (nI_ge hi hn)) (fun _ => ?_)
    refine lv_aload_n hx hb dJ7_fill_53178_10 rfl (lv_at hl 2 rfl) ?_
    refine lv_iload_n hx hb dJ7_fill_53178_11 rfl (lv_at hl 1 rfl) ?_
    refine lv_iload_n hx hb dJ7_fill_53178_12 rfl (lv_at hl 3 rfl) ?_
    refine x_iast (ws' := [(q1, .inl (g.2 0, n1, .inl (fillF (i + 1) v1 f1)))]) hx hb hE hP hD hS 0 rfl i (vp_in_nI hi hn) (nI_clamp (by omega)) dJ7_fill_53178_13 (by rw [← fillF_s]; rfl) (fun H locs hP hD hS => ?_)
    refine lv_iinc (v := nI (i + 1)) (lv' := [(2, .int (nI (i + 1))), (3, .int (nI n1)), (0, .ref q1), (1, .int v1)]) hx hb dJ7_fill_53178_14 hl (k := 1) rfl (by rw [← nI_1]; rfl) (by decide) rfl (fun ls hl => ?_)
    refine lv_goto (tgt := 5) hx hb dJ7_fill_53178_17 (by decide) ?_
    exact ih _ _ _ ⟨hP, hD, hS, lv_sub hl [1, 0, 2, 3] rfl⟩) (fun H locs ls hI => ?_)
  obtain ⟨hP, hD, hS, hl⟩ := hI
  refine lv_iload_n hx hb dJ7_fill_53178_5 rfl (lv_at hl 1 rfl) ?_
  refine lv_iload_n hx hb dJ7_fill_53178_6 rfl (lv_at hl 0 rfl) ?_
  refine lv_icmp_ge (tgt := 20) hx hb dJ7_fill_53178_7 (by decide) (fun _ => ?_) (fun h => absurd (Int32.le_refl _) h)
  exact x_vret hx hb hr hlocks hP hD hS hAe hsz (Nat.le_of_ble_eq_true rfl) (Nat.le_of_ble_eq_true rfl) (fun _ => 0) [0] (by decide) rfl dJ7_fill_53178_20
