abbrev rm_Row_init16 : Room := { frames := 1, cells := 1, slots := 16000, locals := 14 }
abbrev wn_Row_init16 (cB cI cJ : ClassId) (h0 : Nat) : (Nat) → va_W := (fun (u : Nat) => ([(h0, .inr (1, [.ref u, .int (0 : Int32)])), (u, .inl (cB, 16000, .inl (fun _ => 0)))] : va_W))
set_option maxHeartbeats 4000000 in
set_option maxRecDepth 100000 in
theorem c_Row_init16 (l : Launch) (dC : Nat → ClassId) (dI : Nat → Nat → Nat) (cB cI cJ : ClassId) (h0 : Nat) : MetN l y_Row_init ws_Row_init rm_Row_init16 (dC, dI) vwCl [(cB, .byte), (cI, .int), (cJ, .long)] [.ref h0, .int (16000 : Int32)] [(h0, .inr (1, [.null, .int (0 : Int32)]))] (wn_Row_init16 cB cI cJ h0 ) 1 16000 := by
  refine s_ofn (bytes := cd_Row_init) (maxL := 2) (ret := none) (by decide) rfl (Nat.le_of_ble_eq_true rfl) ?_
  intro p e s m below meth c A ls C hin hK hA hP hD hS hl
  obtain ⟨hx, hb, hml, hown, hts, hr, hlocks, hZ⟩ := id C
  have hl : lv_has ls 2 [(0, .ref h0), (1, .int (16000 : Int32))] := hl
  refine lv_aload_n hx hb d_Row_init_0 rfl (lv_at hl 0 rfl) ?_
  refine W.objInit hx hb hown (hts _ w_486) (hts _ w_487) (hts _ w_488) rfl (by rw [hml]; exact hl.1) rfl d_Row_init_1 (Nat.le_of_ble_eq_true rfl) (Nat.le_of_ble_eq_true rfl) ?_
  refine W.eq (g2 := F0 m 4 ls []) rfl ?_
  refine lv_aload_n hx hb d_Row_init_4 rfl (lv_at hl 0 rfl) ?_
  refine lv_iconst (v := 0) hx hb d_Row_init_5 (by decide) ?_
  refine lv_iload_n hx hb d_Row_init_6 rfl (lv_at hl 1 rfl) ?_
  refine s_mmax hx hb (hml.trans hl.1.symm) hown (hts _ w_26) (hts _ w_27) (hts _ w_24) (hts _ w_28) (Nat.le_of_ble_eq_true rfl) (Nat.le_of_ble_eq_true rfl) (Nat.le_of_ble_eq_true rfl) (Nat.le_of_ble_eq_true rfl) d_Row_init_7 ?_
  refine s_newB (k0 := 16000) 0 hx hb (hts _ w_489) rfl hK hP hD hS hA (by decide) (by decide) (Nat.le_of_ble_eq_true rfl) (Nat.le_of_ble_eq_true rfl) (Nat.le_of_ble_eq_true rfl) d_Row_init_10 (fun q10 H hP hD hS => ?_)
  have hP : va_P (dC, dI) vwCl [(h0, .inr (1, [.null, .int (0 : Int32)])), (q10, .inl (cB, 16000, .inl (fun _ => 0)))] H := hP
  have hD : va_D A [(h0, .inr (1, [.null, .int (0 : Int32)])), (q10, .inl (cB, 16000, .inl (fun _ => 0)))] := hD
  refine W.widen (k := 1) (n := 16000) (Nat.le_of_ble_eq_true rfl) (Nat.le_of_ble_eq_true rfl) ?_
  refine va_putF (D := (dC, dI)) (ci := 1) (v := .ref q10) (ty := .array .byte) (C := R_Row) (T := T_Row) (N := 2) hx hb hts w_0 ty_Row ty_Row_ok nm_Row hown hK hP hD hS 0 rfl rfl 0 (by decide) (hts _ w_2) (fun _ h9 => h9) rfl hin rfl (by decide +kernel) rfl rfl (Nat.le_of_ble_eq_true rfl) d_Row_init_12 (fun H locs hP hD hS => ?_)
  have hP : va_P (dC, dI) vwCl [(h0, .inr (1, [.ref q10, .int (0 : Int32)])), (q10, .inl (cB, 16000, .inl (fun _ => 0)))] H := hP
  have hD : va_D A [(h0, .inr (1, [.ref q10, .int (0 : Int32)])), (q10, .inl (cB, 16000, .inl (fun _ => 0)))] := hD
  exact s_nret (wn := wn_Row_init16 cB cI cJ h0 ) q10 hx hb hr hlocks hP hK hD hS d_Row_init_15
