abbrev wd_FR_where (fr g t br : Nat) (cB cI cJ : ClassId) (q_at : Int32) (q_most : Int32) (q_flags : Int32) (q_great : Int32) (q_sizeAt : Int32) (q_start : Int32) (q_place : Int32) : va_W := [(fr, .inr (6, [.ref g, .ref t, .ref br, .int q_at, .int q_most, .int q_flags, .int q_great, .int q_sizeAt, .int q_start, .int q_place]))]
abbrev rm_FR_where : Room := { frames := 0, cells := 0, slots := 0, locals := 0 }
section
variable {p : Program} {l : Launch} {e : Env} {s : State} {m : MethodId} {args : Array Value} {below : List Frame} {meth : Method} {c : Code} {dC : Nat → ClassId} {dI : Nat → Nat → Nat} {A : Nat → Prop} {cB cI cJ : ClassId} {H : Heap} {locs : List Loc} {ls : Array Slot} {N : Nat} {fr g t br : Nat}
noncomputable def j_FR_where_0 (q_place : Int32)  : Option (Int32) :=
  (some q_place : Option (Int32))
set_option maxHeartbeats 4000000 in
set_option maxRecDepth 100000 in
theorem k_FR_where_0 {r_z : Int32} (C : Fx p s m args meth c cd_FR_where 1 R_FR lw_g (some .int)) (hK : va_K (dC, dI) vwCl [(cB, .byte), (cI, .int), (cJ, .long)] s) (hA : ∀ q, s.heap.size ≤ q → A q) (q_at : Int32) (q_most : Int32) (q_flags : Int32) (q_great : Int32) (q_sizeAt : Int32) (q_start : Int32) (q_place : Int32)  (hf : j_FR_where_0 q_place  = some r_z) (hP : va_P (dC, dI) vwCl (wd_FR_where fr g t br cB cI cJ q_at q_most q_flags q_great q_sizeAt q_start q_place) H) (hD : va_D A (wd_FR_where fr g t br cB cI cJ q_at q_most q_flags q_great q_sizeAt q_start q_place)) (hS : va_S A s.heap H locs) (hl : lv_has ls 1 [(0, .ref fr)]) : W p l e rm_FR_where s m args below meth c H locs 0 0 (MQ below (sQi (dC, dI) vwCl [(cB, .byte), (cI, .int), (cJ, .long)] A r_z (wd_FR_where fr g t br cB cI cJ q_at q_most q_flags q_great q_sizeAt q_start q_place)) args s 0 0 A) (F0 m 0 ls []) := by
  obtain ⟨hx, hb, hml, hown, hts, hr, hlocks, hZ⟩ := id C
  unfold j_FR_where_0 at hf
  refine lv_aload_n hx hb d_FR_where_0 rfl (lv_at hl 0 rfl) ?_
  refine va_get (D := (dC, dI)) (ci := 6) (v := .int q_place) (C := R_FR) (T := T_FR) (N := 10) hx hb hts w_278 hown hK hP 0 rfl rfl 9 (by decide) (hts _ w_279) (fun _ h9 => h9) rfl d_FR_where_1 ?_
  cases hf
  exact s_iret hx hb hr hlocks hP hK hD hS d_FR_where_4
end
noncomputable abbrev f_FR_where (q_place : Int32) : Option (Int32) := j_FR_where_0 q_place
set_option maxRecDepth 100000 in
theorem c_FR_where (l : Launch) (dC : Nat → ClassId) (dI : Nat → Nat → Nat) (cB cI cJ : ClassId) (fr g t br : Nat) (q_at : Int32) (q_most : Int32) (q_flags : Int32) (q_great : Int32) (q_sizeAt : Int32) (q_start : Int32) (q_place : Int32)  {r_z : Int32} (hf : f_FR_where q_place = some r_z) : MetI l y_FR_where ws_FR_where rm_FR_where (dC, dI) vwCl [(cB, .byte), (cI, .int), (cJ, .long)] [.ref fr] (wd_FR_where fr g t br cB cI cJ q_at q_most q_flags q_great q_sizeAt q_start q_place) r_z (wd_FR_where fr g t br cB cI cJ q_at q_most q_flags q_great q_sizeAt q_start q_place) 0 0 :=
  s_ofi (bytes := cd_FR_where) (maxL := 1) (ret := (some .int)) (by decide) rfl (Nat.le_of_ble_eq_true rfl) (fun p e s m below meth c A ls C hK hA hP hD hS hl => k_FR_where_0 C hK hA q_at q_most q_flags q_great q_sizeAt q_start q_place hf hP hD hS (lv_sub hl [0] rfl))

abbrev rm_FR_init : Room := { frames := 1, cells := 0, slots := 0, locals := 12 }
abbrev wn_FR_init (cB cI cJ : ClassId) (h0 : Nat) (a1 a2 a3 : Nat) : (Unit) → va_W := (fun (u : Unit) => ([(h0, .inr (6, [.ref a1, .ref a2, .ref a3, .int (0 : Int32), .int (0 : Int32), .int (0 : Int32), .int (0 : Int32), .int (0 : Int32), .int (0 : Int32), .int (0 : Int32)]))] : va_W))
set_option maxHeartbeats 4000000 in
set_option maxRecDepth 100000 in
theorem c_FR_init (l : Launch) (dC : Nat → ClassId) (dI : Nat → Nat → Nat) (cB cI cJ : ClassId) (h0 : Nat) (a1 a2 a3 : Nat) : MetN l y_FR_init ws_FR_init rm_FR_init (dC, dI) vwCl [(cB, .byte), (cI, .int), (cJ, .long)] [.ref h0, .ref a1, .ref a2, .ref a3] [(h0, .inr (6, [.null, .null, .null, .int (0 : Int32), .int (0 : Int32), .int (0 : Int32), .int (0 : Int32), .int (0 : Int32), .int (0 : Int32), .int (0 : Int32)]))] (wn_FR_init cB cI cJ h0 a1 a2 a3) 0 0 := by
  refine s_ofn (bytes := cd_FR_init) (maxL := 4) (ret := none) (by decide) rfl (Nat.le_of_ble_eq_true rfl) ?_
  intro p e s m below meth c A ls C hin hK hA hP hD hS hl
  obtain ⟨hx, hb, hml, hown, hts, hr, hlocks, hZ⟩ := id C
  have hl : lv_has ls 4 [(0, .ref h0), (1, .ref a1), (2, .ref a2), (3, .ref a3)] := hl
  refine lv_aload_n hx hb d_FR_init_0 rfl (lv_at hl 0 rfl) ?_
  refine W.objInit hx hb hown (hts _ w_519) (hts _ w_495) (hts _ w_496) rfl (by rw [hml]; exact hl.1) rfl d_FR_init_1 (Nat.le_of_ble_eq_true rfl) (Nat.le_of_ble_eq_true rfl) ?_
  refine W.eq (g2 := F0 m 4 ls []) rfl ?_
  refine lv_aload_n hx hb d_FR_init_4 rfl (lv_at hl 0 rfl) ?_
  refine lv_aload_n hx hb d_FR_init_5 rfl (lv_at hl 1 rfl) ?_
  refine va_putF (D := (dC, dI)) (ci := 6) (v := .ref a1) (ty := .object "TokenFrames$Row") (C := R_FR) (T := T_FR) (N := 10) hx hb hts w_278 ty_FR ty_FR_ok nm_FR hown hK hP hD hS 0 rfl rfl 0 (by decide) (hts _ w_280) (fun _ h9 => h9) rfl hin rfl (by decide +kernel) rfl rfl (Nat.le_of_ble_eq_true rfl) d_FR_init_6 (fun H locs hP hD hS => ?_)
  have hP : va_P (dC, dI) vwCl [(h0, .inr (6, [.ref a1, .null, .null, .int (0 : Int32), .int (0 : Int32), .int (0 : Int32), .int (0 : Int32), .int (0 : Int32), .int (0 : Int32), .int (0 : Int32)]))] H := hP
  have hD : va_D A [(h0, .inr (6, [.ref a1, .null, .null, .int (0 : Int32), .int (0 : Int32), .int (0 : Int32), .int (0 : Int32), .int (0 : Int32), .int (0 : Int32), .int (0 : Int32)]))] := hD
  refine lv_aload_n hx hb d_FR_init_9 rfl (lv_at hl 0 rfl) ?_
  refine lv_aload_n hx hb d_FR_init_10 rfl (lv_at hl 2 rfl) ?_
  refine va_putF (D := (dC, dI)) (ci := 6) (v := .ref a2) (ty := .object "TokenFrames$Row") (C := R_FR) (T := T_FR) (N := 10) hx hb hts w_278 ty_FR ty_FR_ok nm_FR hown hK hP hD hS 0 rfl rfl 1 (by decide) (hts _ w_300) (fun _ h9 => h9) rfl hin rfl (by decide +kernel) rfl rfl (Nat.le_of_ble_eq_true rfl) d_FR_init_11 (fun H locs hP hD hS => ?_)
  have hP : va_P (dC, dI) vwCl [(h0, .inr (6, [.ref a1, .ref a2, .null, .int (0 : Int32), .int (0 : Int32), .int (0 : Int32), .int (0 : Int32), .int (0 : Int32), .int (0 : Int32), .int (0 : Int32)]))] H := hP
  have hD : va_D A [(h0, .inr (6, [.ref a1, .ref a2, .null, .int (0 : Int32), .int (0 : Int32), .int (0 : Int32), .int (0 : Int32), .int (0 : Int32), .int (0 : Int32), .int (0 : Int32)]))] := hD
  refine lv_aload_n hx hb d_FR_init_14 rfl (lv_at hl 0 rfl) ?_
  refine lv_aload_n hx hb d_FR_init_15 rfl (lv_at hl 3 rfl) ?_
  refine va_putF (D := (dC, dI)) (ci := 6) (v := .ref a3) (ty := .object "TokenFrames$BlockReader") (C := R_FR) (T := T_FR) (N := 10) hx hb hts w_278 ty_FR ty_FR_ok nm_FR hown hK hP hD hS 0 rfl rfl 2 (by decide) (hts _ w_308) (fun _ h9 => h9) rfl hin rfl (by decide +kernel) rfl rfl (Nat.le_of_ble_eq_true rfl) d_FR_init_16 (fun H locs hP hD hS => ?_)
  have hP : va_P (dC, dI) vwCl [(h0, .inr (6, [.ref a1, .ref a2, .ref a3, .int (0 : Int32), .int (0 : Int32), .int (0 : Int32), .int (0 : Int32), .int (0 : Int32), .int (0 : Int32), .int (0 : Int32)]))] H := hP
  have hD : va_D A [(h0, .inr (6, [.ref a1, .ref a2, .ref a3, .int (0 : Int32), .int (0 : Int32), .int (0 : Int32), .int (0 : Int32), .int (0 : Int32), .int (0 : Int32), .int (0 : Int32)]))] := hD
  exact s_nret (wn := wn_FR_init cB cI cJ h0 a1 a2 a3) () hx hb hr hlocks hP hK hD hS d_FR_init_19
