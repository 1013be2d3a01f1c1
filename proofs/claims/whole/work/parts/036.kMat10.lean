abbrev rm_Mat_init : Room := { frames := 2, cells := 4, slots := 36098, locals := 35 }
abbrev wn_Mat_init (cB cI cJ : ClassId) (h0 : Nat) : (Nat × Nat × Nat × Nat) → va_W := (fun (u : Nat × Nat × Nat × Nat) => ([(h0, .inr (3, [.ref u.1, .ref u.2.2.1, .ref u.2.2.2, .int (0 : Int32), .int (0 : Int32), .int (0 : Int32)])), (u.1, .inr (1, [.ref u.2.1, .int (0 : Int32)])), (u.2.1, .inl (cB, 16000, .inl (fun _ => 0))), (u.2.2.1, .inl (cI, 4096, .inl (fun _ => 0))), (u.2.2.2, .inl (cI, 16000, .inl (fun _ => 0)))] : va_W))
set_option maxHeartbeats 4000000 in
set_option maxRecDepth 100000 in
theorem c_Mat_init (l : Launch) (dC : Nat → ClassId) (dI : Nat → Nat → Nat) (cB cI cJ : ClassId) (h0 : Nat) : MetN l y_Mat_init ws_Mat_init rm_Mat_init (dC, dI) vwCl [(cB, .byte), (cI, .int), (cJ, .long)] [.ref h0] [(h0, .inr (3, [.null, .null, .null, .int (0 : Int32), .int (0 : Int32), .int (0 : Int32)]))] (wn_Mat_init cB cI cJ h0 ) 4 36098 := by
  refine s_ofn (bytes := cd_Mat_init) (maxL := 1) (ret := none) (by decide) rfl (Nat.le_of_ble_eq_true rfl) ?_
  intro p e s m below meth c A ls C hin hK hA hP hD hS hl
  obtain ⟨hx, hb, hml, hown, hts, hr, hlocks, hZ⟩ := id C
  have hl : lv_has ls 1 [(0, .ref h0)] := hl
  refine lv_aload_n hx hb d_Mat_init_0 rfl (lv_at hl 0 rfl) ?_
  refine W.objInit hx hb hown (hts _ w_490) (hts _ w_487) (hts _ w_488) rfl (by rw [hml]; exact hl.1) rfl d_Mat_init_1 (Nat.le_of_ble_eq_true rfl) (Nat.le_of_ble_eq_true rfl) ?_
  refine W.eq (g2 := F0 m 4 ls []) rfl ?_
  refine lv_aload_n hx hb d_Mat_init_4 rfl (lv_at hl 0 rfl) ?_
  refine va_new (ci := 1) (fs := [.null, .int (0 : Int32)]) (C := R_Row) (T := T_Row) (N := 2) hx hb hts w_0 ty_Row ty_Row_ok hown (hts _ w_491) (hts _ w_492) (hts _ w_12) hK hP hD hS hA rfl (fun j hj => by rcases (show j = 0 ∨ j = 1 by omega) with rfl | rfl <;> rfl) (Nat.le_of_ble_eq_true rfl) (Nat.le_of_ble_eq_true rfl) d_Mat_init_5 (fun q5 H hP hD hS => ?_)
  have hP : va_P (dC, dI) vwCl [(h0, .inr (3, [.null, .null, .null, .int (0 : Int32), .int (0 : Int32), .int (0 : Int32)])), (q5, .inr (1, [.null, .int (0 : Int32)]))] H := hP
  have hD : va_D A [(h0, .inr (3, [.null, .null, .null, .int (0 : Int32), .int (0 : Int32), .int (0 : Int32)])), (q5, .inr (1, [.null, .int (0 : Int32)]))] := hD
  refine W.widen (k := 1) (n := 2) (Nat.le_of_ble_eq_true rfl) (Nat.le_of_ble_eq_true rfl) ?_
  refine lv_dup hx hb d_Mat_init_8 rfl ?_
  refine lv_sipush (v := 16000) hx hb d_Mat_init_9 (by decide) ?_
  refine s_In (As := [.int (16000 : Int32)]) (rest := [.ref q5, .ref h0]) (wr := [(h0, .inr (3, [.null, .null, .null, .int (0 : Int32), .int (0 : Int32), .int (0 : Int32)]))]) C.call (c_Row_init16 l dC dI cB cI cJ q5 ) (cwI 1 hts (gd_c w_493) rfl rfl rfl (hts _ w_12) (hts _ w_494) (hts _ w_495) rfl hd_Row_init ⟨Nat.le_of_ble_eq_true rfl, Nat.le_of_ble_eq_true rfl⟩) rfl hl.1 rfl (Nat.le_of_ble_eq_true rfl) d_Mat_init_12 ⟨Nat.le_of_ble_eq_true rfl, Nat.le_of_ble_eq_true rfl⟩ hZ hK hP hD hS hA [1] [0] rfl rfl rfl rfl (by decide) (fun u_12 H locs hP hD hS => ?_)
  obtain ⟨q12_0, rfl⟩ : ∃ z, z = u_12 := ⟨_, rfl⟩
  have hP : va_P (dC, dI) vwCl [(h0, .inr (3, [.null, .null, .null, .int (0 : Int32), .int (0 : Int32), .int (0 : Int32)])), (q5, .inr (1, [.ref q12_0, .int (0 : Int32)])), (q12_0, .inl (cB, 16000, .inl (fun _ => 0)))] H := hP
  have hD : va_D A [(h0, .inr (3, [.null, .null, .null, .int (0 : Int32), .int (0 : Int32), .int (0 : Int32)])), (q5, .inr (1, [.ref q12_0, .int (0 : Int32)])), (q12_0, .inl (cB, 16000, .inl (fun _ => 0)))] := hD
  refine W.widen (k := 2) (n := 16002) (Nat.le_of_ble_eq_true rfl) (Nat.le_of_ble_eq_true rfl) ?_
  refine va_putF (D := (dC, dI)) (ci := 3) (v := .ref q5) (ty := .object "TokenFrames$Row") (C := R_Mat) (T := T_Mat) (N := 6) hx hb hts w_53 ty_Mat ty_Mat_ok nm_Mat hown hK hP hD hS 0 rfl rfl 0 (by decide) (hts _ w_56) (fun _ h9 => h9) rfl hin rfl (by decide +kernel) rfl rfl (Nat.le_of_ble_eq_true rfl) d_Mat_init_15 (fun H locs hP hD hS => ?_)
  have hP : va_P (dC, dI) vwCl [(h0, .inr (3, [.ref q5, .null, .null, .int (0 : Int32), .int (0 : Int32), .int (0 : Int32)])), (q5, .inr (1, [.ref q12_0, .int (0 : Int32)])), (q12_0, .inl (cB, 16000, .inl (fun _ => 0)))] H := hP
  have hD : va_D A [(h0, .inr (3, [.ref q5, .null, .null, .int (0 : Int32), .int (0 : Int32), .int (0 : Int32)])), (q5, .inr (1, [.ref q12_0, .int (0 : Int32)])), (q12_0, .inl (cB, 16000, .inl (fun _ => 0)))] := hD
  refine lv_aload_n hx hb d_Mat_init_18 rfl (lv_at hl 0 rfl) ?_
  refine lv_sipush (v := 4096) hx hb d_Mat_init_19 (by decide) ?_
  refine s_newI (k0 := 4096) 1 hx hb (hts _ w_496) rfl hK hP hD hS hA (by decide) (by decide) (Nat.le_of_ble_eq_true rfl) (Nat.le_of_ble_eq_true rfl) (Nat.le_of_ble_eq_true rfl) d_Mat_init_22 (fun q22 H hP hD hS => ?_)
  have hP : va_P (dC, dI) vwCl [(h0, .inr (3, [.ref q5, .null, .null, .int (0 : Int32), .int (0 : Int32), .int (0 : Int32)])), (q5, .inr (1, [.ref q12_0, .int (0 : Int32)])), (q12_0, .inl (cB, 16000, .inl (fun _ => 0))), (q22, .inl (cI, 4096, .inl (fun _ => 0)))] H := hP
  have hD : va_D A [(h0, .inr (3, [.ref q5, .null, .null, .int (0 : Int32), .int (0 : Int32), .int (0 : Int32)])), (q5, .inr (1, [.ref q12_0, .int (0 : Int32)])), (q12_0, .inl (cB, 16000, .inl (fun _ => 0))), (q22, .inl (cI, 4096, .inl (fun _ => 0)))] := hD
  refine W.widen (k := 3) (n := 20098) (Nat.le_of_ble_eq_true rfl) (Nat.le_of_ble_eq_true rfl) ?_
  refine va_putF (D := (dC, dI)) (ci := 3) (v := .ref q22) (ty := .array .int) (C := R_Mat) (T := T_Mat) (N := 6) hx hb hts w_53 ty_Mat ty_Mat_ok nm_Mat hown hK hP hD hS 0 rfl rfl 1 (by decide) (hts _ w_65) (fun _ h9 => h9) rfl hin rfl (by decide +kernel) rfl rfl (Nat.le_of_ble_eq_true rfl) d_Mat_init_24 (fun H locs hP hD hS => ?_)
  have hP : va_P (dC, dI) vwCl [(h0, .inr (3, [.ref q5, .ref q22, .null, .int (0 : Int32), .int (0 : Int32), .int (0 : Int32)])), (q5, .inr (1, [.ref q12_0, .int (0 : Int32)])), (q12_0, .inl (cB, 16000, .inl (fun _ => 0))), (q22, .inl (cI, 4096, .inl (fun _ => 0)))] H := hP
  have hD : va_D A [(h0, .inr (3, [.ref q5, .ref q22, .null, .int (0 : Int32), .int (0 : Int32), .int (0 : Int32)])), (q5, .inr (1, [.ref q12_0, .int (0 : Int32)])), (q12_0, .inl (cB, 16000, .inl (fun _ => 0))), (q22, .inl (cI, 4096, .inl (fun _ => 0)))] := hD
  refine lv_aload_n hx hb d_Mat_init_27 rfl (lv_at hl 0 rfl) ?_
  refine lv_sipush (v := 16000) hx hb d_Mat_init_28 (by decide) ?_
  refine s_newI (k0 := 16000) 1 hx hb (hts _ w_496) rfl hK hP hD hS hA (by decide) (by decide) (Nat.le_of_ble_eq_true rfl) (Nat.le_of_ble_eq_true rfl) (Nat.le_of_ble_eq_true rfl) d_Mat_init_31 (fun q31 H hP hD hS => ?_)
  have hP : va_P (dC, dI) vwCl [(h0, .inr (3, [.ref q5, .ref q22, .null, .int (0 : Int32), .int (0 : Int32), .int (0 : Int32)])), (q5, .inr (1, [.ref q12_0, .int (0 : Int32)])), (q12_0, .inl (cB, 16000, .inl (fun _ => 0))), (q22, .inl (cI, 4096, .inl (fun _ => 0))), (q31, .inl (cI, 16000, .inl (fun _ => 0)))] H := hP
  have hD : va_D A [(h0, .inr (3, [.ref q5, .ref q22, .null, .int (0 : Int32), .int (0 : Int32), .int (0 : Int32)])), (q5, .inr (1, [.ref q12_0, .int (0 : Int32)])), (q12_0, .inl (cB, 16000, .inl (fun _ => 0))), (q22, .inl (cI, 4096, .inl (fun _ => 0))), (q31, .inl (cI, 16000, .inl (fun _ => 0)))] := hD
  refine W.widen (k := 4) (n := 36098) (Nat.le_of_ble_eq_true rfl) (Nat.le_of_ble_eq_true rfl) ?_
  refine va_putF (D := (dC, dI)) (ci := 3) (v := .ref q31) (ty := .array .int) (C := R_Mat) (T := T_Mat) (N := 6) hx hb hts w_53 ty_Mat ty_Mat_ok nm_Mat hown hK hP hD hS 0 rfl rfl 2 (by decide) (hts _ w_55) (fun _ h9 => h9) rfl hin rfl (by decide +kernel) rfl rfl (Nat.le_of_ble_eq_true rfl) d_Mat_init_33 (fun H locs hP hD hS => ?_)
  have hP : va_P (dC, dI) vwCl [(h0, .inr (3, [.ref q5, .ref q22, .ref q31, .int (0 : Int32), .int (0 : Int32), .int (0 : Int32)])), (q5, .inr (1, [.ref q12_0, .int (0 : Int32)])), (q12_0, .inl (cB, 16000, .inl (fun _ => 0))), (q22, .inl (cI, 4096, .inl (fun _ => 0))), (q31, .inl (cI, 16000, .inl (fun _ => 0)))] H := hP
  have hD : va_D A [(h0, .inr (3, [.ref q5, .ref q22, .ref q31, .int (0 : Int32), .int (0 : Int32), .int (0 : Int32)])), (q5, .inr (1, [.ref q12_0, .int (0 : Int32)])), (q12_0, .inl (cB, 16000, .inl (fun _ => 0))), (q22, .inl (cI, 4096, .inl (fun _ => 0))), (q31, .inl (cI, 16000, .inl (fun _ => 0)))] := hD
  exact s_nret (wn := wn_Mat_init cB cI cJ h0 ) (q5, q12_0, q22, q31) hx hb hr hlocks hP hK hD hS d_Mat_init_36
