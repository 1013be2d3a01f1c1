abbrev wd_FR_fault (fr g t br : Nat) (cB cI cJ : ClassId) (q_at : Int32) (q_most : Int32) (q_flags : Int32) (q_great : Int32) (q_sizeAt : Int32) (q_start : Int32) (q_place : Int32) : va_W := [(fr, .inr (6, [.ref g, .ref t, .ref br, .int q_at, .int q_most, .int q_flags, .int q_great, .int q_sizeAt, .int q_start, .int q_place]))]
abbrev rm_FR_fault : Room := { frames := 0, cells := 0, slots := 0, locals := 0 }
section
variable {p : Program} {l : Launch} {e : Env} {s : State} {m : MethodId} {args : Array Value} {below : List Frame} {meth : Method} {c : Code} {dC : Nat → ClassId} {dI : Nat → Nat → Nat} {A : Nat → Prop} {cB cI cJ : ClassId} {H : Heap} {locs : List Loc} {ls : Array Slot} {N : Nat} {fr g t br : Nat}
noncomputable def j_FR_fault_0 (x1 : Int32) (x2 : Int32)  : Option (Int32 × Int32) :=
  (some (x1, x2) : Option (Int32 × Int32))
set_option maxHeartbeats 4000000 in
set_option maxRecDepth 100000 in
theorem k_FR_fault_0 {r_z : Int32} {q_place_z : Int32} (C : Fx p s m args meth c cd_FR_fault 3 R_FR lw_g (some .int)) (hK : va_K (dC, dI) vwCl [(cB, .byte), (cI, .int), (cJ, .long)] s) (hA : ∀ q, s.heap.size ≤ q → A q) (x1 : Int32) (x2 : Int32) (q_at : Int32) (q_most : Int32) (q_flags : Int32) (q_great : Int32) (q_sizeAt : Int32) (q_start : Int32) (q_place : Int32)  (hf : j_FR_fault_0 x1 x2  = some (r_z, q_place_z)) (hP : va_P (dC, dI) vwCl (wd_FR_fault fr g t br cB cI cJ q_at q_most q_flags q_great q_sizeAt q_start q_place) H) (hD : va_D A (wd_FR_fault fr g t br cB cI cJ q_at q_most q_flags q_great q_sizeAt q_start q_place)) (hS : va_S A s.heap H locs) (hl : lv_has ls 3 [(0, .ref fr), (1, .int x1), (2, .int x2)]) : W p l e rm_FR_fault s m args below meth c H locs 0 0 (MQ below (sQi (dC, dI) vwCl [(cB, .byte), (cI, .int), (cJ, .long)] A r_z (wd_FR_fault fr g t br cB cI cJ q_at q_most q_flags q_great q_sizeAt q_start q_place_z)) args s 0 0 A) (F0 m 0 ls []) := by
  obtain ⟨hx, hb, hml, hown, hts, hr, hlocks, hZ⟩ := id C
  unfold j_FR_fault_0 at hf
  refine lv_aload_n hx hb d_FR_fault_0 rfl (lv_at hl 0 rfl) ?_
  refine lv_iload_n hx hb d_FR_fault_1 rfl (lv_at hl 2 rfl) ?_
  refine va_put (D := (dC, dI)) (ci := 6) (v := .int x2) (ty := .int) (C := R_FR) (T := T_FR) (N := 10) hx hb hts w_278 ty_FR ty_FR_ok nm_FR hown hK hP hD hS 0 rfl rfl 9 (by decide) (hts _ w_279) (fun _ h9 => h9) rfl (by decide +kernel) rfl rfl (Nat.le_of_ble_eq_true rfl) d_FR_fault_2 (fun H locs hP hD hS => ?_)
  have hP : va_P (dC, dI) vwCl (wd_FR_fault fr g t br cB cI cJ q_at q_most q_flags q_great q_sizeAt q_start x2) H := hP
  have hD : va_D A (wd_FR_fault fr g t br cB cI cJ q_at q_most q_flags q_great q_sizeAt q_start x2) := hD
  refine lv_iload_n hx hb d_FR_fault_5 rfl (lv_at hl 1 rfl) ?_
  cases hf
  exact s_iret hx hb hr hlocks hP hK hD hS d_FR_fault_6
end
noncomputable abbrev f_FR_fault (x1 : Int32) (x2 : Int32) : Option (Int32 × Int32) := j_FR_fault_0 x1 x2
set_option maxRecDepth 100000 in
theorem c_FR_fault (l : Launch) (dC : Nat → ClassId) (dI : Nat → Nat → Nat) (cB cI cJ : ClassId) (fr g t br : Nat) (q_at : Int32) (q_most : Int32) (q_flags : Int32) (q_great : Int32) (q_sizeAt : Int32) (q_start : Int32) (q_place : Int32) (x1 : Int32) (x2 : Int32) {r_z : Int32} {q_place_z : Int32} (hf : f_FR_fault x1 x2 = some (r_z, q_place_z)) : MetI l y_FR_fault ws_FR_fault rm_FR_fault (dC, dI) vwCl [(cB, .byte), (cI, .int), (cJ, .long)] [.ref fr, .int x1, .int x2] (wd_FR_fault fr g t br cB cI cJ q_at q_most q_flags q_great q_sizeAt q_start q_place) r_z (wd_FR_fault fr g t br cB cI cJ q_at q_most q_flags q_great q_sizeAt q_start q_place_z) 0 0 :=
  s_ofi (bytes := cd_FR_fault) (maxL := 3) (ret := (some .int)) (by decide) rfl (Nat.le_of_ble_eq_true rfl) (fun p e s m below meth c A ls C hK hA hP hD hS hl => k_FR_fault_0 C hK hA x1 x2 q_at q_most q_flags q_great q_sizeAt q_start q_place hf hP hD hS (lv_sub hl [0, 1, 2] rfl))

abbrev wd_FR_cut (fr g t br ga : Nat) (cB cI cJ : ClassId) (q_at : Int32) (q_most : Int32) (q_flags : Int32) (q_great : Int32) (q_sizeAt : Int32) (q_start : Int32) (q_place : Int32) (gn : Int32) : va_W := [(fr, .inr (6, [.ref g, .ref t, .ref br, .int q_at, .int q_most, .int q_flags, .int q_great, .int q_sizeAt, .int q_start, .int q_place])), (g, .inr (1, [.ref ga, .int gn]))]
abbrev rm_FR_cut : Room := { frames := 1, cells := 0, slots := 0, locals := 22 }
section
variable {p : Program} {l : Launch} {e : Env} {s : State} {m : MethodId} {args : Array Value} {below : List Frame} {meth : Method} {c : Code} {dC : Nat → ClassId} {dI : Nat → Nat → Nat} {A : Nat → Prop} {cB cI cJ : ClassId} {H : Heap} {locs : List Loc} {ls : Array Slot} {N : Nat} {fr g t br ga : Nat}
noncomputable def j_FR_cut_0 (gn : Int32)  : Option (Int32 × Int32) :=
  bd1 (f_Row_count gn) (fun r6 => bd2 (f_FR_fault (1 : Int32) r6) (fun r9 q_place_9 => (some (r9, q_place_9) : Option (Int32 × Int32))))
set_option maxHeartbeats 4000000 in
set_option maxRecDepth 100000 in
theorem k_FR_cut_0 {r_z : Int32} {q_place_z : Int32} (C : Fx p s m args meth c cd_FR_cut 1 R_FR lw_g (some .int)) (hK : va_K (dC, dI) vwCl [(cB, .byte), (cI, .int), (cJ, .long)] s) (hA : ∀ q, s.heap.size ≤ q → A q) (q_at : Int32) (q_most : Int32) (q_flags : Int32) (q_great : Int32) (q_sizeAt : Int32) (q_start : Int32) (q_place : Int32) (gn : Int32)  (hf : j_FR_cut_0 gn  = some (r_z, q_place_z)) (hP : va_P (dC, dI) vwCl (wd_FR_cut fr g t br ga cB cI cJ q_at q_most q_flags q_great q_sizeAt q_start q_place gn) H) (hD : va_D A (wd_FR_cut fr g t br ga cB cI cJ q_at q_most q_flags q_great q_sizeAt q_start q_place gn)) (hS : va_S A s.heap H locs) (hl : lv_has ls 1 [(0, .ref fr)]) : W p l e rm_FR_cut s m args below meth c H locs 0 0 (MQ below (sQi (dC, dI) vwCl [(cB, .byte), (cI, .int), (cJ, .long)] A r_z (wd_FR_cut fr g t br ga cB cI cJ q_at q_most q_flags q_great q_sizeAt q_start q_place_z gn)) args s 0 0 A) (F0 m 0 ls []) := by
  obtain ⟨hx, hb, hml, hown, hts, hr, hlocks, hZ⟩ := id C
  unfold j_FR_cut_0 at hf
  refine lv_aload_n hx hb d_FR_cut_0 rfl (lv_at hl 0 rfl) ?_
  refine lv_iconst (v := 1) hx hb d_FR_cut_1 (by decide) ?_
  refine lv_aload_n hx hb d_FR_cut_2 rfl (lv_at hl 0 rfl) ?_
  refine va_get (D := (dC, dI)) (ci := 6) (v := .ref g) (C := R_FR) (T := T_FR) (N := 10) hx hb hts w_278 hown hK hP 0 rfl rfl 0 (by decide) (hts _ w_280) (fun _ h9 => h9) rfl d_FR_cut_3 ?_
  obtain ⟨r6, hc6, hf⟩ := bd1_some hf
  refine s_Vi (As := []) (rest := [.int (1 : Int32), .ref fr]) (wr := [(fr, .inr (6, [.ref g, .ref t, .ref br, .int q_at, .int q_most, .int q_flags, .int q_great, .int q_sizeAt, .int q_start, .int q_place]))]) (ws' := wd_FR_cut fr g t br ga cB cI cJ q_at q_most q_flags q_great q_sizeAt q_start q_place gn) C.call (c_Row_count l dC dI cB cI cJ g ga  gn  hc6) (cwV 0 hts (gd_V w_281 w_10 w_11 w_12 w_13) rfl rfl rfl ⟨rfl, hd_Row_count⟩ ⟨Nat.le_of_ble_eq_true rfl, Nat.le_of_ble_eq_true rfl⟩) rfl hl.1 rfl (Nat.le_of_ble_eq_true rfl) d_FR_cut_6 ⟨Nat.le_of_ble_eq_true rfl, Nat.le_of_ble_eq_true rfl⟩ hZ hK hP hD hS hA 1 1 rfl rfl [1] [0] [0, 1] rfl rfl rfl rfl (by decide) rfl rfl (fun H locs hP hD hS => ?_)
  obtain ⟨r9, q_place_9, hc9, hf⟩ := bd2_some hf
  refine s_Vi (As := [.int (1 : Int32), .int r6]) (rest := []) (wr := [(g, .inr (1, [.ref ga, .int gn]))]) (ws' := wd_FR_cut fr g t br ga cB cI cJ q_at q_most q_flags q_great q_sizeAt q_start q_place_9 gn) C.call (c_FR_fault l dC dI cB cI cJ fr g t br  q_at q_most q_flags q_great q_sizeAt q_start q_place (1 : Int32) r6 hc9) (cwV 2 hts (gd_V w_282 w_283 w_284 w_285 w_286) rfl rfl rfl ⟨rfl, hd_FR_fault⟩ ⟨Nat.le_of_ble_eq_true rfl, Nat.le_of_ble_eq_true rfl⟩) rfl hl.1 rfl (Nat.le_of_ble_eq_true rfl) d_FR_cut_9 ⟨Nat.le_of_ble_eq_true rfl, Nat.le_of_ble_eq_true rfl⟩ hZ hK hP hD hS hA 6 0 rfl rfl [0] [1] [1, 0] rfl rfl rfl rfl (by decide) rfl rfl (fun H locs hP hD hS => ?_)
  cases hf
  exact s_iret hx hb hr hlocks hP hK hD hS d_FR_cut_12
end
noncomputable abbrev f_FR_cut (gn : Int32) : Option (Int32 × Int32) := j_FR_cut_0 gn
set_option maxRecDepth 100000 in
theorem c_FR_cut (l : Launch) (dC : Nat → ClassId) (dI : Nat → Nat → Nat) (cB cI cJ : ClassId) (fr g t br ga : Nat) (q_at : Int32) (q_most : Int32) (q_flags : Int32) (q_great : Int32) (q_sizeAt : Int32) (q_start : Int32) (q_place : Int32) (gn : Int32)  {r_z : Int32} {q_place_z : Int32} (hf : f_FR_cut gn = some (r_z, q_place_z)) : MetI l y_FR_cut ws_FR_cut rm_FR_cut (dC, dI) vwCl [(cB, .byte), (cI, .int), (cJ, .long)] [.ref fr] (wd_FR_cut fr g t br ga cB cI cJ q_at q_most q_flags q_great q_sizeAt q_start q_place gn) r_z (wd_FR_cut fr g t br ga cB cI cJ q_at q_most q_flags q_great q_sizeAt q_start q_place_z gn) 0 0 :=
  s_ofi (bytes := cd_FR_cut) (maxL := 1) (ret := (some .int)) (by decide) rfl (Nat.le_of_ble_eq_true rfl) (fun p e s m below meth c A ls C hK hA hP hD hS hl => k_FR_cut_0 C hK hA q_at q_most q_flags q_great q_sizeAt q_start q_place gn hf hP hD hS (lv_sub hl [0] rfl))

abbrev wd_FR_left (fr g t br ga : Nat) (cB cI cJ : ClassId) (q_at : Int32) (q_most : Int32) (q_flags : Int32) (q_great : Int32) (q_sizeAt : Int32) (q_start : Int32) (q_place : Int32) (gn : Int32) : va_W := [(fr, .inr (6, [.ref g, .ref t, .ref br, .int q_at, .int q_most, .int q_flags, .int q_great, .int q_sizeAt, .int q_start, .int q_place])), (g, .inr (1, [.ref ga, .int gn]))]
abbrev rm_FR_left : Room := { frames := 1, cells := 0, slots := 0, locals := 20 }
section
variable {p : Program} {l : Launch} {e : Env} {s : State} {m : MethodId} {args : Array Value} {below : List Frame} {meth : Method} {c : Code} {dC : Nat → ClassId} {dI : Nat → Nat → Nat} {A : Nat → Prop} {cB cI cJ : ClassId} {H : Heap} {locs : List Loc} {ls : Array Slot} {N : Nat} {fr g t br ga : Nat}
noncomputable def j_FR_left_0 (q_at : Int32) (gn : Int32)  : Option (Int32) :=
  bd1 (f_Row_count gn) (fun r4 => (some (r4 - q_at) : Option (Int32)))
set_option maxHeartbeats 4000000 in
set_option maxRecDepth 100000 in
theorem k_FR_left_0 {r_z : Int32} (C : Fx p s m args meth c cd_FR_left 1 R_FR lw_g (some .int)) (hK : va_K (dC, dI) vwCl [(cB, .byte), (cI, .int), (cJ, .long)] s) (hA : ∀ q, s.heap.size ≤ q → A q) (q_at : Int32) (q_most : Int32) (q_flags : Int32) (q_great : Int32) (q_sizeAt : Int32) (q_start : Int32) (q_place : Int32) (gn : Int32)  (hf : j_FR_left_0 q_at gn  = some r_z) (hP : va_P (dC, dI) vwCl (wd_FR_left fr g t br ga cB cI cJ q_at q_most q_flags q_great q_sizeAt q_start q_place gn) H) (hD : va_D A (wd_FR_left fr g t br ga cB cI cJ q_at q_most q_flags q_great q_sizeAt q_start q_place gn)) (hS : va_S A s.heap H locs) (hl : lv_has ls 1 [(0, .ref fr)]) : W p l e rm_FR_left s m args below meth c H locs 0 0 (MQ below (sQi (dC, dI) vwCl [(cB, .byte), (cI, .int), (cJ, .long)] A r_z (wd_FR_left fr g t br ga cB cI cJ q_at q_most q_flags q_great q_sizeAt q_start q_place gn)) args s 0 0 A) (F0 m 0 ls []) := by
  obtain ⟨hx, hb, hml, hown, hts, hr, hlocks, hZ⟩ := id C
  unfold j_FR_left_0 at hf
  refine lv_aload_n hx hb d_FR_left_0 rfl (lv_at hl 0 rfl) ?_
  refine va_get (D := (dC, dI)) (ci := 6) (v := .ref g) (C := R_FR) (T := T_FR) (N := 10) hx hb hts w_278 hown hK hP 0 rfl rfl 0 (by decide) (hts _ w_280) (fun _ h9 => h9) rfl d_FR_left_1 ?_
  obtain ⟨r4, hc4, hf⟩ := bd1_some hf
  refine s_Vi (As := []) (rest := []) (wr := [(fr, .inr (6, [.ref g, .ref t, .ref br, .int q_at, .int q_most, .int q_flags, .int q_great, .int q_sizeAt, .int q_start, .int q_place]))]) (ws' := wd_FR_left fr g t br ga cB cI cJ q_at q_most q_flags q_great q_sizeAt q_start q_place gn) C.call (c_Row_count l dC dI cB cI cJ g ga  gn  hc4) (cwV 0 hts (gd_V w_281 w_10 w_11 w_12 w_13) rfl rfl rfl ⟨rfl, hd_Row_count⟩ ⟨Nat.le_of_ble_eq_true rfl, Nat.le_of_ble_eq_true rfl⟩) rfl hl.1 rfl (Nat.le_of_ble_eq_true rfl) d_FR_left_4 ⟨Nat.le_of_ble_eq_true rfl, Nat.le_of_ble_eq_true rfl⟩ hZ hK hP hD hS hA 1 1 rfl rfl [1] [0] [0, 1] rfl rfl rfl rfl (by decide) rfl rfl (fun H locs hP hD hS => ?_)
  refine lv_aload_n hx hb d_FR_left_7 rfl (lv_at hl 0 rfl) ?_
  refine va_get (D := (dC, dI)) (ci := 6) (v := .int q_at) (C := R_FR) (T := T_FR) (N := 10) hx hb hts w_278 hown hK hP 0 rfl rfl 3 (by decide) (hts _ w_287) (fun _ h9 => h9) rfl d_FR_left_8 ?_
  refine lv_isub hx hb d_FR_left_11 ?_
  cases hf
  exact s_iret hx hb hr hlocks hP hK hD hS d_FR_left_12
end
noncomputable abbrev f_FR_left (q_at : Int32) (gn : Int32) : Option (Int32) := j_FR_left_0 q_at gn
set_option maxRecDepth 100000 in
theorem c_FR_left (l : Launch) (dC : Nat → ClassId) (dI : Nat → Nat → Nat) (cB cI cJ : ClassId) (fr g t br ga : Nat) (q_at : Int32) (q_most : Int32) (q_flags : Int32) (q_great : Int32) (q_sizeAt : Int32) (q_start : Int32) (q_place : Int32) (gn : Int32)  {r_z : Int32} (hf : f_FR_left q_at gn = some r_z) : MetI l y_FR_left ws_FR_left rm_FR_left (dC, dI) vwCl [(cB, .byte), (cI, .int), (cJ, .long)] [.ref fr] (wd_FR_left fr g t br ga cB cI cJ q_at q_most q_flags q_great q_sizeAt q_start q_place gn) r_z (wd_FR_left fr g t br ga cB cI cJ q_at q_most q_flags q_great q_sizeAt q_start q_place gn) 0 0 :=
  s_ofi (bytes := cd_FR_left) (maxL := 1) (ret := (some .int)) (by decide) rfl (Nat.le_of_ble_eq_true rfl) (fun p e s m below meth c A ls C hK hA hP hD hS hl => k_FR_left_0 C hK hA q_at q_most q_flags q_great q_sizeAt q_start q_place gn hf hP hD hS (lv_sub hl [0] rfl))

abbrev wd_FR_passSpare (fr g ga t br : Nat) (cB cI cJ : ClassId) (q_at : Int32) (q_most : Int32) (q_flags : Int32) (q_great : Int32) (q_sizeAt : Int32) (q_start : Int32) (q_place : Int32) (gn : Int32) (gf : Nat → Int32) : va_W := [(fr, .inr (6, [.ref g, .ref t, .ref br, .int q_at, .int q_most, .int q_flags, .int q_great, .int q_sizeAt, .int q_start, .int q_place])), (g, .inr (1, [.ref ga, .int gn])), (ga, .inl (cB, 8000, .inl gf))]
abbrev rm_FR_passSpare : Room := { frames := 2, cells := 0, slots := 0, locals := 42 }
section
variable {p : Program} {l : Launch} {e : Env} {s : State} {m : MethodId} {args : Array Value} {below : List Frame} {meth : Method} {c : Code} {dC : Nat → ClassId} {dI : Nat → Nat → Nat} {A : Nat → Prop} {cB cI cJ : ClassId} {H : Heap} {locs : List Loc} {ls : Array Slot} {N : Nat} {fr g ga t br : Nat}
noncomputable def j_FR_passSpare_0 (q_at : Int32) (q_place : Int32) (gn : Int32) (gf : Nat → Int32)  : Option (Int32 × Int32 × Int32) :=
  bd1 (f_FR_left (q_at + (4 : Int32)) gn) (fun r11 => (if (4 : Int32) ≤ r11 then bd1 (f_Row_word 8000 (q_at + (4 : Int32)) gn gf) (fun r31 => bd1 (f_FR_left ((q_at + (4 : Int32)) + (4 : Int32)) gn) (fun r51 => (if 0 ≤ (lg_cmp (r51.toInt64) ((r31.toInt64) &&& (4294967295 : Int64))) then (some ((0 : Int32), (((q_at + (4 : Int32)) + (4 : Int32)) + (((r31.toInt64) &&& (4294967295 : Int64)).toInt32)), q_place) : Option (Int32 × Int32 × Int32)) else bd2 (f_FR_cut gn) (fun r61 q_place_61 => (some (r61, ((q_at + (4 : Int32)) + (4 : Int32)), q_place_61) : Option (Int32 × Int32 × Int32)))))) else bd2 (f_FR_cut gn) (fun r19 q_place_19 => (some (r19, (q_at + (4 : Int32)), q_place_19) : Option (Int32 × Int32 × Int32)))))
set_option maxHeartbeats 4000000 in
set_option maxRecDepth 100000 in
theorem k_FR_passSpare_0 {r_z : Int32} {q_at_z : Int32} {q_place_z : Int32} (C : Fx p s m args meth c cd_FR_passSpare 3 R_FR lw_g (some .int)) (hK : va_K (dC, dI) vwCl [(cB, .byte), (cI, .int), (cJ, .long)] s) (hA : ∀ q, s.heap.size ≤ q → A q) (q_at : Int32) (q_most : Int32) (q_flags : Int32) (q_great : Int32) (q_sizeAt : Int32) (q_start : Int32) (q_place : Int32) (gn : Int32) (gf : Nat → Int32)  (hf : j_FR_passSpare_0 q_at q_place gn gf  = some (r_z, q_at_z, q_place_z)) (hP : va_P (dC, dI) vwCl (wd_FR_passSpare fr g ga t br cB cI cJ q_at q_most q_flags q_great q_sizeAt q_start q_place gn gf) H) (hD : va_D A (wd_FR_passSpare fr g ga t br cB cI cJ q_at q_most q_flags q_great q_sizeAt q_start q_place gn gf)) (hS : va_S A s.heap H locs) (hl : lv_has ls 3 [(0, .ref fr)]) : W p l e rm_FR_passSpare s m args below meth c H locs 0 0 (MQ below (sQi (dC, dI) vwCl [(cB, .byte), (cI, .int), (cJ, .long)] A r_z (wd_FR_passSpare fr g ga t br cB cI cJ q_at_z q_most q_flags q_great q_sizeAt q_start q_place_z gn gf)) args s 0 0 A) (F0 m 0 ls []) := by
  obtain ⟨hx, hb, hml, hown, hts, hr, hlocks, hZ⟩ := id C
  unfold j_FR_passSpare_0 at hf
  refine lv_aload_n hx hb d_FR_passSpare_0 rfl (lv_at hl 0 rfl) ?_
  refine lv_dup hx hb d_FR_passSpare_1 rfl ?_
  refine va_get (D := (dC, dI)) (ci := 6) (v := .int q_at) (C := R_FR) (T := T_FR) (N := 10) hx hb hts w_278 hown hK hP 0 rfl rfl 3 (by decide) (hts _ w_287) (fun _ h9 => h9) rfl d_FR_passSpare_2 ?_
  refine lv_iconst (v := 4) hx hb d_FR_passSpare_5 (by decide) ?_
  refine lv_iadd hx hb d_FR_passSpare_6 ?_
  refine va_put (D := (dC, dI)) (ci := 6) (v := .int (q_at + (4 : Int32))) (ty := .int) (C := R_FR) (T := T_FR) (N := 10) hx hb hts w_278 ty_FR ty_FR_ok nm_FR hown hK hP hD hS 0 rfl rfl 3 (by decide) (hts _ w_287) (fun _ h9 => h9) rfl (by decide +kernel) rfl rfl (Nat.le_of_ble_eq_true rfl) d_FR_passSpare_7 (fun H locs hP hD hS => ?_)
  have hP : va_P (dC, dI) vwCl (wd_FR_passSpare fr g ga t br cB cI cJ (q_at + (4 : Int32)) q_most q_flags q_great q_sizeAt q_start q_place gn gf) H := hP
  have hD : va_D A (wd_FR_passSpare fr g ga t br cB cI cJ (q_at + (4 : Int32)) q_most q_flags q_great q_sizeAt q_start q_place gn gf) := hD
  refine lv_aload_n hx hb d_FR_passSpare_10 rfl (lv_at hl 0 rfl) ?_
  obtain ⟨r11, hc11, hf⟩ := bd1_some hf
  refine s_Vi (As := []) (rest := []) (wr := [(ga, .inl (cB, 8000, .inl gf))]) (ws' := wd_FR_passSpare fr g ga t br cB cI cJ (q_at + (4 : Int32)) q_most q_flags q_great q_sizeAt q_start q_place gn gf) C.call (c_FR_left l dC dI cB cI cJ fr g t br ga  (q_at + (4 : Int32)) q_most q_flags q_great q_sizeAt q_start q_place gn  hc11) (cwV 0 hts (gd_V w_288 w_289 w_290 w_285 w_291) rfl rfl rfl ⟨rfl, hd_FR_left⟩ ⟨Nat.le_of_ble_eq_true rfl, Nat.le_of_ble_eq_true rfl⟩) rfl hl.1 rfl (Nat.le_of_ble_eq_true rfl) d_FR_passSpare_11 ⟨Nat.le_of_ble_eq_true rfl, Nat.le_of_ble_eq_true rfl⟩ hZ hK hP hD hS hA 6 0 rfl rfl [0, 1] [2] [1, 2, 0] rfl rfl rfl rfl (by decide) rfl rfl (fun H locs hP hD hS => ?_)
  refine lv_iconst (v := 4) hx hb d_FR_passSpare_14 (by decide) ?_
  refine lv_icmp_ge (tgt := 23) hx hb d_FR_passSpare_15 (by decide) (fun c_15 => ?_) (fun c_15 => ?_)
  · have hf := br_pos c_15 hf
    refine lv_aload_n hx hb d_FR_passSpare_23 rfl (lv_at hl 0 rfl) ?_
    refine va_get (D := (dC, dI)) (ci := 6) (v := .ref g) (C := R_FR) (T := T_FR) (N := 10) hx hb hts w_278 hown hK hP 0 rfl rfl 0 (by decide) (hts _ w_280) (fun _ h9 => h9) rfl d_FR_passSpare_24 ?_
    refine lv_aload_n hx hb d_FR_passSpare_27 rfl (lv_at hl 0 rfl) ?_
    refine va_get (D := (dC, dI)) (ci := 6) (v := .int (q_at + (4 : Int32))) (C := R_FR) (T := T_FR) (N := 10) hx hb hts w_278 hown hK hP 0 rfl rfl 3 (by decide) (hts _ w_287) (fun _ h9 => h9) rfl d_FR_passSpare_28 ?_
    obtain ⟨r31, hc31, hf⟩ := bd1_some hf
    refine s_Vi (As := [.int (q_at + (4 : Int32))]) (rest := []) (wr := [(fr, .inr (6, [.ref g, .ref t, .ref br, .int (q_at + (4 : Int32)), .int q_most, .int q_flags, .int q_great, .int q_sizeAt, .int q_start, .int q_place]))]) (ws' := wd_FR_passSpare fr g ga t br cB cI cJ (q_at + (4 : Int32)) q_most q_flags q_great q_sizeAt q_start q_place gn gf) C.call (c_Row_word l dC dI cB cI cJ g ga 8000 gn gf (q_at + (4 : Int32)) hc31) (cwV 1 hts (gd_V w_292 w_59 w_60 w_12 w_61) rfl rfl rfl ⟨rfl, hd_Row_word⟩ ⟨Nat.le_of_ble_eq_true rfl, Nat.le_of_ble_eq_true rfl⟩) rfl hl.1 rfl (Nat.le_of_ble_eq_true rfl) d_FR_passSpare_31 ⟨Nat.le_of_ble_eq_true rfl, Nat.le_of_ble_eq_true rfl⟩ hZ hK hP hD hS hA 1 1 rfl rfl [1, 2] [0] [0, 1, 2] rfl rfl rfl rfl (by decide) rfl rfl (fun H locs hP hD hS => ?_)
    refine lv_i2l (v := (r31.toInt64)) hx hb d_FR_passSpare_34 rfl ?_
    refine lv_ldc2 (v := 4294967295) hx hb hown (hts _ w_293) d_FR_passSpare_35 ?_
    refine lv_land hx hb d_FR_passSpare_38 ?_
    refine lv_lstore_n (lv' := [(1, .long ((r31.toInt64) &&& (4294967295 : Int64))), (0, .ref fr)]) hx hb d_FR_passSpare_39 rfl hl (by decide) rfl (fun ls hl => ?_)
    refine lv_aload_n hx hb d_FR_passSpare_40 rfl (lv_at hl 1 rfl) ?_
    refine lv_dup hx hb d_FR_passSpare_41 rfl ?_
    refine va_get (D := (dC, dI)) (ci := 6) (v := .int (q_at + (4 : Int32))) (C := R_FR) (T := T_FR) (N := 10) hx hb hts w_278 hown hK hP 0 rfl rfl 3 (by decide) (hts _ w_287) (fun _ h9 => h9) rfl d_FR_passSpare_42 ?_
    refine lv_iconst (v := 4) hx hb d_FR_passSpare_45 (by decide) ?_
    refine lv_iadd hx hb d_FR_passSpare_46 ?_
    refine va_put (D := (dC, dI)) (ci := 6) (v := .int ((q_at + (4 : Int32)) + (4 : Int32))) (ty := .int) (C := R_FR) (T := T_FR) (N := 10) hx hb hts w_278 ty_FR ty_FR_ok nm_FR hown hK hP hD hS 0 rfl rfl 3 (by decide) (hts _ w_287) (fun _ h9 => h9) rfl (by decide +kernel) rfl rfl (Nat.le_of_ble_eq_true rfl) d_FR_passSpare_47 (fun H locs hP hD hS => ?_)
    have hP : va_P (dC, dI) vwCl (wd_FR_passSpare fr g ga t br cB cI cJ ((q_at + (4 : Int32)) + (4 : Int32)) q_most q_flags q_great q_sizeAt q_start q_place gn gf) H := hP
    have hD : va_D A (wd_FR_passSpare fr g ga t br cB cI cJ ((q_at + (4 : Int32)) + (4 : Int32)) q_most q_flags q_great q_sizeAt q_start q_place gn gf) := hD
    refine lv_aload_n hx hb d_FR_passSpare_50 rfl (lv_at hl 1 rfl) ?_
    obtain ⟨r51, hc51, hf⟩ := bd1_some hf
    refine s_Vi (As := []) (rest := []) (wr := [(ga, .inl (cB, 8000, .inl gf))]) (ws' := wd_FR_passSpare fr g ga t br cB cI cJ ((q_at + (4 : Int32)) + (4 : Int32)) q_most q_flags q_great q_sizeAt q_start q_place gn gf) C.call (c_FR_left l dC dI cB cI cJ fr g t br ga  ((q_at + (4 : Int32)) + (4 : Int32)) q_most q_flags q_great q_sizeAt q_start q_place gn  hc51) (cwV 0 hts (gd_V w_288 w_289 w_290 w_285 w_291) rfl rfl rfl ⟨rfl, hd_FR_left⟩ ⟨Nat.le_of_ble_eq_true rfl, Nat.le_of_ble_eq_true rfl⟩) rfl hl.1 rfl (Nat.le_of_ble_eq_true rfl) d_FR_passSpare_51 ⟨Nat.le_of_ble_eq_true rfl, Nat.le_of_ble_eq_true rfl⟩ hZ hK hP hD hS hA 6 0 rfl rfl [0, 1] [2] [1, 2, 0] rfl rfl rfl rfl (by decide) rfl rfl (fun H locs hP hD hS => ?_)
    refine lv_i2l (v := (r51.toInt64)) hx hb d_FR_passSpare_54 rfl ?_
    refine lv_lload_n hx hb d_FR_passSpare_55 rfl (lv_at hl 0 rfl) ?_
    refine W.lcmp hx hb d_FR_passSpare_56 ?_
    refine lv_if_ge (tgt := 65) hx hb d_FR_passSpare_57 (by decide) (fun c_57 => ?_) (fun c_57 => ?_)
    · have hf := br_pos c_57 hf
      refine lv_aload_n hx hb d_FR_passSpare_65 rfl (lv_at hl 1 rfl) ?_
      refine lv_dup hx hb d_FR_passSpare_66 rfl ?_
      refine va_get (D := (dC, dI)) (ci := 6) (v := .int ((q_at + (4 : Int32)) + (4 : Int32))) (C := R_FR) (T := T_FR) (N := 10) hx hb hts w_278 hown hK hP 0 rfl rfl 3 (by decide) (hts _ w_287) (fun _ h9 => h9) rfl d_FR_passSpare_67 ?_
      refine lv_lload_n hx hb d_FR_passSpare_70 rfl (lv_at hl 0 rfl) ?_
      refine lv_l2i (v := (((r31.toInt64) &&& (4294967295 : Int64)).toInt32)) hx hb d_FR_passSpare_71 rfl ?_
      refine lv_iadd hx hb d_FR_passSpare_72 ?_
      refine va_put (D := (dC, dI)) (ci := 6) (v := .int (((q_at + (4 : Int32)) + (4 : Int32)) + (((r31.toInt64) &&& (4294967295 : Int64)).toInt32))) (ty := .int) (C := R_FR) (T := T_FR) (N := 10) hx hb hts w_278 ty_FR ty_FR_ok nm_FR hown hK hP hD hS 0 rfl rfl 3 (by decide) (hts _ w_287) (fun _ h9 => h9) rfl (by decide +kernel) rfl rfl (Nat.le_of_ble_eq_true rfl) d_FR_passSpare_73 (fun H locs hP hD hS => ?_)
      have hP : va_P (dC, dI) vwCl (wd_FR_passSpare fr g ga t br cB cI cJ (((q_at + (4 : Int32)) + (4 : Int32)) + (((r31.toInt64) &&& (4294967295 : Int64)).toInt32)) q_most q_flags q_great q_sizeAt q_start q_place gn gf) H := hP
      have hD : va_D A (wd_FR_passSpare fr g ga t br cB cI cJ (((q_at + (4 : Int32)) + (4 : Int32)) + (((r31.toInt64) &&& (4294967295 : Int64)).toInt32)) q_most q_flags q_great q_sizeAt q_start q_place gn gf) := hD
      refine lv_iconst (v := 0) hx hb d_FR_passSpare_76 (by decide) ?_
      cases hf
      exact s_iret hx hb hr hlocks hP hK hD hS d_FR_passSpare_77
    · have hf := br_neg c_57 hf
      refine lv_aload_n hx hb d_FR_passSpare_60 rfl (lv_at hl 1 rfl) ?_
      obtain ⟨r61, q_place_61, hc61, hf⟩ := bd2_some hf
      refine s_Vi (As := []) (rest := []) (wr := [(ga, .inl (cB, 8000, .inl gf))]) (ws' := wd_FR_passSpare fr g ga t br cB cI cJ ((q_at + (4 : Int32)) + (4 : Int32)) q_most q_flags q_great q_sizeAt q_start q_place_61 gn gf) C.call (c_FR_cut l dC dI cB cI cJ fr g t br ga  ((q_at + (4 : Int32)) + (4 : Int32)) q_most q_flags q_great q_sizeAt q_start q_place gn  hc61) (cwV 0 hts (gd_V w_294 w_295 w_296 w_285 w_297) rfl rfl rfl ⟨rfl, hd_FR_cut⟩ ⟨Nat.le_of_ble_eq_true rfl, Nat.le_of_ble_eq_true rfl⟩) rfl hl.1 rfl (Nat.le_of_ble_eq_true rfl) d_FR_passSpare_61 ⟨Nat.le_of_ble_eq_true rfl, Nat.le_of_ble_eq_true rfl⟩ hZ hK hP hD hS hA 6 0 rfl rfl [0, 1] [2] [1, 2, 0] rfl rfl rfl rfl (by decide) rfl rfl (fun H locs hP hD hS => ?_)
      cases hf
      exact s_iret hx hb hr hlocks hP hK hD hS d_FR_passSpare_64
  · have hf := br_neg c_15 hf
    refine lv_aload_n hx hb d_FR_passSpare_18 rfl (lv_at hl 0 rfl) ?_
    obtain ⟨r19, q_place_19, hc19, hf⟩ := bd2_some hf
    refine s_Vi (As := []) (rest := []) (wr := [(ga, .inl (cB, 8000, .inl gf))]) (ws' := wd_FR_passSpare fr g ga t br cB cI cJ (q_at + (4 : Int32)) q_most q_flags q_great q_sizeAt q_start q_place_19 gn gf) C.call (c_FR_cut l dC dI cB cI cJ fr g t br ga  (q_at + (4 : Int32)) q_most q_flags q_great q_sizeAt q_start q_place gn  hc19) (cwV 0 hts (gd_V w_294 w_295 w_296 w_285 w_297) rfl rfl rfl ⟨rfl, hd_FR_cut⟩ ⟨Nat.le_of_ble_eq_true rfl, Nat.le_of_ble_eq_true rfl⟩) rfl hl.1 rfl (Nat.le_of_ble_eq_true rfl) d_FR_passSpare_19 ⟨Nat.le_of_ble_eq_true rfl, Nat.le_of_ble_eq_true rfl⟩ hZ hK hP hD hS hA 6 0 rfl rfl [0, 1] [2] [1, 2, 0] rfl rfl rfl rfl (by decide) rfl rfl (fun H locs hP hD hS => ?_)
    cases hf
    exact s_iret hx hb hr hlocks hP hK hD hS d_FR_passSpare_22
end
noncomputable abbrev f_FR_passSpare (q_at : Int32) (q_place : Int32) (gn : Int32) (gf : Nat → Int32) : Option (Int32 × Int32 × Int32) := j_FR_passSpare_0 q_at q_place gn gf
set_option maxRecDepth 100000 in
theorem c_FR_passSpare (l : Launch) (dC : Nat → ClassId) (dI : Nat → Nat → Nat) (cB cI cJ : ClassId) (fr g ga t br : Nat) (q_at : Int32) (q_most : Int32) (q_flags : Int32) (q_great : Int32) (q_sizeAt : Int32) (q_start : Int32) (q_place : Int32) (gn : Int32) (gf : Nat → Int32)  {r_z : Int32} {q_at_z : Int32} {q_place_z : Int32} (hf : f_FR_passSpare q_at q_place gn gf = some (r_z, q_at_z, q_place_z)) : MetI l y_FR_passSpare ws_FR_passSpare rm_FR_passSpare (dC, dI) vwCl [(cB, .byte), (cI, .int), (cJ, .long)] [.ref fr] (wd_FR_passSpare fr g ga t br cB cI cJ q_at q_most q_flags q_great q_sizeAt q_start q_place gn gf) r_z (wd_FR_passSpare fr g ga t br cB cI cJ q_at_z q_most q_flags q_great q_sizeAt q_start q_place_z gn gf) 0 0 :=
  s_ofi (bytes := cd_FR_passSpare) (maxL := 3) (ret := (some .int)) (by decide) rfl (Nat.le_of_ble_eq_true rfl) (fun p e s m below meth c A ls C hK hA hP hD hS hl => k_FR_passSpare_0 C hK hA q_at q_most q_flags q_great q_sizeAt q_start q_place gn gf hf hP hD hS (lv_sub hl [0] rfl))

abbrev wd_FR_has (fr g t br : Nat) (cB cI cJ : ClassId) (q_at : Int32) (q_most : Int32) (q_flags : Int32) (q_great : Int32) (q_sizeAt : Int32) (q_start : Int32) (q_place : Int32) : va_W := [(fr, .inr (6, [.ref g, .ref t, .ref br, .int q_at, .int q_most, .int q_flags, .int q_great, .int q_sizeAt, .int q_start, .int q_place]))]
abbrev rm_FR_has : Room := { frames := 0, cells := 0, slots := 0, locals := 0 }
section
variable {p : Program} {l : Launch} {e : Env} {s : State} {m : MethodId} {args : Array Value} {below : List Frame} {meth : Method} {c : Code} {dC : Nat → ClassId} {dI : Nat → Nat → Nat} {A : Nat → Prop} {cB cI cJ : ClassId} {H : Heap} {locs : List Loc} {ls : Array Slot} {N : Nat} {fr g t br : Nat}
noncomputable def j_FR_has_0 (x1 : Int32) (q_flags : Int32)  : Option (Int32) :=
  (if (q_flags &&& x1) = 0 then (some (0 : Int32) : Option (Int32)) else (some (1 : Int32) : Option (Int32)))
set_option maxHeartbeats 4000000 in
set_option maxRecDepth 100000 in
theorem k_FR_has_0 {r_z : Int32} (C : Fx p s m args meth c cd_FR_has 2 R_FR lw_g (some .boolean)) (hK : va_K (dC, dI) vwCl [(cB, .byte), (cI, .int), (cJ, .long)] s) (hA : ∀ q, s.heap.size ≤ q → A q) (x1 : Int32) (q_at : Int32) (q_most : Int32) (q_flags : Int32) (q_great : Int32) (q_sizeAt : Int32) (q_start : Int32) (q_place : Int32)  (hf : j_FR_has_0 x1 q_flags  = some r_z) (hP : va_P (dC, dI) vwCl (wd_FR_has fr g t br cB cI cJ q_at q_most q_flags q_great q_sizeAt q_start q_place) H) (hD : va_D A (wd_FR_has fr g t br cB cI cJ q_at q_most q_flags q_great q_sizeAt q_start q_place)) (hS : va_S A s.heap H locs) (hl : lv_has ls 2 [(0, .ref fr), (1, .int x1)]) : W p l e rm_FR_has s m args below meth c H locs 0 0 (MQ below (sQi (dC, dI) vwCl [(cB, .byte), (cI, .int), (cJ, .long)] A r_z (wd_FR_has fr g t br cB cI cJ q_at q_most q_flags q_great q_sizeAt q_start q_place)) args s 0 0 A) (F0 m 0 ls []) := by
  obtain ⟨hx, hb, hml, hown, hts, hr, hlocks, hZ⟩ := id C
  unfold j_FR_has_0 at hf
  refine lv_aload_n hx hb d_FR_has_0 rfl (lv_at hl 0 rfl) ?_
  refine va_get (D := (dC, dI)) (ci := 6) (v := .int q_flags) (C := R_FR) (T := T_FR) (N := 10) hx hb hts w_278 hown hK hP 0 rfl rfl 5 (by decide) (hts _ w_298) (fun _ h9 => h9) rfl d_FR_has_1 ?_
  refine lv_iload_n hx hb d_FR_has_4 rfl (lv_at hl 1 rfl) ?_
  refine lv_iand hx hb d_FR_has_5 ?_
  refine lv_if_eq (tgt := 13) hx hb d_FR_has_6 (by decide) (fun c_6 => ?_) (fun c_6 => ?_)
  · have hf := br_pos c_6 hf
    refine lv_iconst (v := 0) hx hb d_FR_has_13 (by decide) ?_
    cases hf
    exact s_zret hx hb hr (by decide) hlocks hP hK hD hS d_FR_has_14
  · have hf := br_neg c_6 hf
    refine lv_iconst (v := 1) hx hb d_FR_has_9 (by decide) ?_
    refine lv_goto (tgt := 14) hx hb d_FR_has_10 (by decide) ?_
    cases hf
    exact s_zret hx hb hr (by decide) hlocks hP hK hD hS d_FR_has_14
end
noncomputable abbrev f_FR_has (x1 : Int32) (q_flags : Int32) : Option (Int32) := j_FR_has_0 x1 q_flags
set_option maxRecDepth 100000 in
theorem c_FR_has (l : Launch) (dC : Nat → ClassId) (dI : Nat → Nat → Nat) (cB cI cJ : ClassId) (fr g t br : Nat) (q_at : Int32) (q_most : Int32) (q_flags : Int32) (q_great : Int32) (q_sizeAt : Int32) (q_start : Int32) (q_place : Int32) (x1 : Int32) {r_z : Int32} (hf : f_FR_has x1 q_flags = some r_z) : MetI l y_FR_has ws_FR_has rm_FR_has (dC, dI) vwCl [(cB, .byte), (cI, .int), (cJ, .long)] [.ref fr, .int x1] (wd_FR_has fr g t br cB cI cJ q_at q_most q_flags q_great q_sizeAt q_start q_place) r_z (wd_FR_has fr g t br cB cI cJ q_at q_most q_flags q_great q_sizeAt q_start q_place) 0 0 :=
  s_ofi (bytes := cd_FR_has) (maxL := 2) (ret := (some .boolean)) (by decide) rfl (Nat.le_of_ble_eq_true rfl) (fun p e s m below meth c A ls C hK hA hP hD hS hl => k_FR_has_0 C hK hA x1 q_at q_most q_flags q_great q_sizeAt q_start q_place hf hP hD hS (lv_sub hl [0, 1] rfl))

abbrev wd_FR_takeBytes (fr g ga t ta br : Nat) (cB cI cJ : ClassId) (q_at : Int32) (q_most : Int32) (q_flags : Int32) (q_great : Int32) (q_sizeAt : Int32) (q_start : Int32) (q_place : Int32) (gn : Int32) (gf : Nat → Int32) (tn : Int32) (tf : Nat → Int32) : va_W := [(fr, .inr (6, [.ref g, .ref t, .ref br, .int q_at, .int q_most, .int q_flags, .int q_great, .int q_sizeAt, .int q_start, .int q_place])), (g, .inr (1, [.ref ga, .int gn])), (ga, .inl (cB, 8000, .inl gf)), (t, .inr (1, [.ref ta, .int tn])), (ta, .inl (cB, 8000, .inl tf))]
abbrev rm_FR_takeBytes : Room := { frames := 2, cells := 0, slots := 0, locals := 42 }
section
variable {p : Program} {l : Launch} {e : Env} {s : State} {m : MethodId} {args : Array Value} {below : List Frame} {meth : Method} {c : Code} {dC : Nat → ClassId} {dI : Nat → Nat → Nat} {A : Nat → Prop} {cB cI cJ : ClassId} {H : Heap} {locs : List Loc} {ls : Array Slot} {N : Nat} {fr g ga t ta br : Nat}
noncomputable def j_FR_takeBytes_0 (x1 : Int32) (x2 : Int32) (q_most : Int32) (q_place : Int32) (gn : Int32) (gf : Nat → Int32) (tn : Int32) (tf : Nat → Int32)  : Option (Int32 × Int32 × Int32 × (Nat → Int32)) :=
  bd1 (f_Row_count tn) (fun r8 => (if (x2 - x1) ≤ (q_most - r8) then bd3 (f_Row_addFrom 8000 8000 x1 x2 tn tf gn gf) (fun r39 tn_39 tf_39 => (some ((0 : Int32), q_place, tn_39, tf_39) : Option (Int32 × Int32 × Int32 × (Nat → Int32)))) else bd2 (f_FR_fault (3 : Int32) (x1 + (q_most - r8))) (fun r25 q_place_25 => (some (r25, q_place_25, tn, tf) : Option (Int32 × Int32 × Int32 × (Nat → Int32))))))
set_option maxHeartbeats 4000000 in
set_option maxRecDepth 100000 in
theorem k_FR_takeBytes_0 {r_z : Int32} {q_place_z : Int32} {tn_z : Int32} {tf_z : Nat → Int32} (C : Fx p s m args meth c cd_FR_takeBytes 4 R_FR lw_g (some .int)) (hK : va_K (dC, dI) vwCl [(cB, .byte), (cI, .int), (cJ, .long)] s) (hA : ∀ q, s.heap.size ≤ q → A q) (x1 : Int32) (x2 : Int32) (q_at : Int32) (q_most : Int32) (q_flags : Int32) (q_great : Int32) (q_sizeAt : Int32) (q_start : Int32) (q_place : Int32) (gn : Int32) (gf : Nat → Int32) (tn : Int32) (tf : Nat → Int32)  (hf : j_FR_takeBytes_0 x1 x2 q_most q_place gn gf tn tf  = some (r_z, q_place_z, tn_z, tf_z)) (hP : va_P (dC, dI) vwCl (wd_FR_takeBytes fr g ga t ta br cB cI cJ q_at q_most q_flags q_great q_sizeAt q_start q_place gn gf tn tf) H) (hD : va_D A (wd_FR_takeBytes fr g ga t ta br cB cI cJ q_at q_most q_flags q_great q_sizeAt q_start q_place gn gf tn tf)) (hS : va_S A s.heap H locs) (hl : lv_has ls 4 [(0, .ref fr), (1, .int x1), (2, .int x2)]) : W p l e rm_FR_takeBytes s m args below meth c H locs 0 0 (MQ below (sQi (dC, dI) vwCl [(cB, .byte), (cI, .int), (cJ, .long)] A r_z (wd_FR_takeBytes fr g ga t ta br cB cI cJ q_at q_most q_flags q_great q_sizeAt q_start q_place_z gn gf tn_z tf_z)) args s 0 0 A) (F0 m 0 ls []) := by
  obtain ⟨hx, hb, hml, hown, hts, hr, hlocks, hZ⟩ := id C
  unfold j_FR_takeBytes_0 at hf
  refine lv_aload_n hx hb d_FR_takeBytes_0 rfl (lv_at hl 0 rfl) ?_
  refine va_get (D := (dC, dI)) (ci := 6) (v := .int q_most) (C := R_FR) (T := T_FR) (N := 10) hx hb hts w_278 hown hK hP 0 rfl rfl 4 (by decide) (hts _ w_299) (fun _ h9 => h9) rfl d_FR_takeBytes_1 ?_
  refine lv_aload_n hx hb d_FR_takeBytes_4 rfl (lv_at hl 0 rfl) ?_
  refine va_get (D := (dC, dI)) (ci := 6) (v := .ref t) (C := R_FR) (T := T_FR) (N := 10) hx hb hts w_278 hown hK hP 0 rfl rfl 1 (by decide) (hts _ w_300) (fun _ h9 => h9) rfl d_FR_takeBytes_5 ?_
  obtain ⟨r8, hc8, hf⟩ := bd1_some hf
  refine s_Vi (As := []) (rest := [.int q_most]) (wr := [(fr, .inr (6, [.ref g, .ref t, .ref br, .int q_at, .int q_most, .int q_flags, .int q_great, .int q_sizeAt, .int q_start, .int q_place])), (g, .inr (1, [.ref ga, .int gn])), (ga, .inl (cB, 8000, .inl gf)), (ta, .inl (cB, 8000, .inl tf))]) (ws' := wd_FR_takeBytes fr g ga t ta br cB cI cJ q_at q_most q_flags q_great q_sizeAt q_start q_place gn gf tn tf) C.call (c_Row_count l dC dI cB cI cJ t ta  tn  hc8) (cwV 0 hts (gd_V w_281 w_10 w_11 w_12 w_13) rfl rfl rfl ⟨rfl, hd_Row_count⟩ ⟨Nat.le_of_ble_eq_true rfl, Nat.le_of_ble_eq_true rfl⟩) rfl hl.1 rfl (Nat.le_of_ble_eq_true rfl) d_FR_takeBytes_8 ⟨Nat.le_of_ble_eq_true rfl, Nat.le_of_ble_eq_true rfl⟩ hZ hK hP hD hS hA 1 3 rfl rfl [3] [0, 1, 2, 4] [0, 1, 2, 4, 3] rfl rfl rfl rfl (by decide) rfl rfl (fun H locs hP hD hS => ?_)
  refine lv_isub hx hb d_FR_takeBytes_11 ?_
  refine lv_istore_n (lv' := [(3, .int (q_most - r8)), (0, .ref fr), (1, .int x1), (2, .int x2)]) hx hb d_FR_takeBytes_12 rfl hl (by decide) rfl (fun ls hl => ?_)
  refine lv_iload_n hx hb d_FR_takeBytes_13 rfl (lv_at hl 3 rfl) ?_
  refine lv_iload_n hx hb d_FR_takeBytes_14 rfl (lv_at hl 2 rfl) ?_
  refine lv_isub hx hb d_FR_takeBytes_15 ?_
  refine lv_iload_n hx hb d_FR_takeBytes_16 rfl (lv_at hl 0 rfl) ?_
  refine lv_icmp_le (tgt := 29) hx hb d_FR_takeBytes_17 (by decide) (fun c_17 => ?_) (fun c_17 => ?_)
  · have hf := br_pos c_17 hf
    refine lv_aload_n hx hb d_FR_takeBytes_29 rfl (lv_at hl 1 rfl) ?_
    refine va_get (D := (dC, dI)) (ci := 6) (v := .ref t) (C := R_FR) (T := T_FR) (N := 10) hx hb hts w_278 hown hK hP 0 rfl rfl 1 (by decide) (hts _ w_300) (fun _ h9 => h9) rfl d_FR_takeBytes_30 ?_
    refine lv_aload_n hx hb d_FR_takeBytes_33 rfl (lv_at hl 1 rfl) ?_
    refine va_get (D := (dC, dI)) (ci := 6) (v := .ref g) (C := R_FR) (T := T_FR) (N := 10) hx hb hts w_278 hown hK hP 0 rfl rfl 0 (by decide) (hts _ w_280) (fun _ h9 => h9) rfl d_FR_takeBytes_34 ?_
    refine lv_iload_n hx hb d_FR_takeBytes_37 rfl (lv_at hl 2 rfl) ?_
    refine lv_iload_n hx hb d_FR_takeBytes_38 rfl (lv_at hl 3 rfl) ?_
    obtain ⟨r39, tn_39, tf_39, hc39, hf⟩ := bd3_some hf
    refine s_Vi (As := [.ref g, .int x1, .int x2]) (rest := []) (wr := [(fr, .inr (6, [.ref g, .ref t, .ref br, .int q_at, .int q_most, .int q_flags, .int q_great, .int q_sizeAt, .int q_start, .int q_place]))]) (ws' := wd_FR_takeBytes fr g ga t ta br cB cI cJ q_at q_most q_flags q_great q_sizeAt q_start q_place gn gf tn_39 tf_39) C.call (c_Row_addFrom l dC dI cB cI cJ t ta g ga 8000 8000 tn tf gn gf x1 x2 hc39) (cwV 3 hts (gd_V w_301 w_19 w_20 w_12 w_21) rfl rfl rfl ⟨rfl, hd_Row_addFrom⟩ ⟨Nat.le_of_ble_eq_true rfl, Nat.le_of_ble_eq_true rfl⟩) rfl hl.1 rfl (Nat.le_of_ble_eq_true rfl) d_FR_takeBytes_39 ⟨Nat.le_of_ble_eq_true rfl, Nat.le_of_ble_eq_true rfl⟩ hZ hK hP hD hS hA 1 3 rfl rfl [3, 4, 1, 2] [0] [0, 3, 4, 1, 2] rfl rfl rfl rfl (by decide) rfl rfl (fun H locs hP hD hS => ?_)
    refine lv_pop hx hb d_FR_takeBytes_42 rfl ?_
    refine lv_iconst (v := 0) hx hb d_FR_takeBytes_43 (by decide) ?_
    cases hf
    exact s_iret hx hb hr hlocks hP hK hD hS d_FR_takeBytes_44
  · have hf := br_neg c_17 hf
    refine lv_aload_n hx hb d_FR_takeBytes_20 rfl (lv_at hl 1 rfl) ?_
    refine lv_iconst (v := 3) hx hb d_FR_takeBytes_21 (by decide) ?_
    refine lv_iload_n hx hb d_FR_takeBytes_22 rfl (lv_at hl 2 rfl) ?_
    refine lv_iload_n hx hb d_FR_takeBytes_23 rfl (lv_at hl 0 rfl) ?_
    refine lv_iadd hx hb d_FR_takeBytes_24 ?_
    obtain ⟨r25, q_place_25, hc25, hf⟩ := bd2_some hf
    refine s_Vi (As := [.int (3 : Int32), .int (x1 + (q_most - r8))]) (rest := []) (wr := [(g, .inr (1, [.ref ga, .int gn])), (ga, .inl (cB, 8000, .inl gf)), (t, .inr (1, [.ref ta, .int tn])), (ta, .inl (cB, 8000, .inl tf))]) (ws' := wd_FR_takeBytes fr g ga t ta br cB cI cJ q_at q_most q_flags q_great q_sizeAt q_start q_place_25 gn gf tn tf) C.call (c_FR_fault l dC dI cB cI cJ fr g t br  q_at q_most q_flags q_great q_sizeAt q_start q_place (3 : Int32) (x1 + (q_most - r8)) hc25) (cwV 2 hts (gd_V w_282 w_283 w_284 w_285 w_286) rfl rfl rfl ⟨rfl, hd_FR_fault⟩ ⟨Nat.le_of_ble_eq_true rfl, Nat.le_of_ble_eq_true rfl⟩) rfl hl.1 rfl (Nat.le_of_ble_eq_true rfl) d_FR_takeBytes_25 ⟨Nat.le_of_ble_eq_true rfl, Nat.le_of_ble_eq_true rfl⟩ hZ hK hP hD hS hA 6 0 rfl rfl [0] [1, 2, 3, 4] [4, 0, 1, 2, 3] rfl rfl rfl rfl (by decide) rfl rfl (fun H locs hP hD hS => ?_)
    cases hf
    exact s_iret hx hb hr hlocks hP hK hD hS d_FR_takeBytes_28
end
noncomputable abbrev f_FR_takeBytes (x1 : Int32) (x2 : Int32) (q_most : Int32) (q_place : Int32) (gn : Int32) (gf : Nat → Int32) (tn : Int32) (tf : Nat → Int32) : Option (Int32 × Int32 × Int32 × (Nat → Int32)) := j_FR_takeBytes_0 x1 x2 q_most q_place gn gf tn tf
set_option maxRecDepth 100000 in
theorem c_FR_takeBytes (l : Launch) (dC : Nat → ClassId) (dI : Nat → Nat → Nat) (cB cI cJ : ClassId) (fr g ga t ta br : Nat) (q_at : Int32) (q_most : Int32) (q_flags : Int32) (q_great : Int32) (q_sizeAt : Int32) (q_start : Int32) (q_place : Int32) (gn : Int32) (gf : Nat → Int32) (tn : Int32) (tf : Nat → Int32) (x1 : Int32) (x2 : Int32) {r_z : Int32} {q_place_z : Int32} {tn_z : Int32} {tf_z : Nat → Int32} (hf : f_FR_takeBytes x1 x2 q_most q_place gn gf tn tf = some (r_z, q_place_z, tn_z, tf_z)) : MetI l y_FR_takeBytes ws_FR_takeBytes rm_FR_takeBytes (dC, dI) vwCl [(cB, .byte), (cI, .int), (cJ, .long)] [.ref fr, .int x1, .int x2] (wd_FR_takeBytes fr g ga t ta br cB cI cJ q_at q_most q_flags q_great q_sizeAt q_start q_place gn gf tn tf) r_z (wd_FR_takeBytes fr g ga t ta br cB cI cJ q_at q_most q_flags q_great q_sizeAt q_start q_place_z gn gf tn_z tf_z) 0 0 :=
  s_ofi (bytes := cd_FR_takeBytes) (maxL := 4) (ret := (some .int)) (by decide) rfl (Nat.le_of_ble_eq_true rfl) (fun p e s m below meth c A ls C hK hA hP hD hS hl => k_FR_takeBytes_0 C hK hA x1 x2 q_at q_most q_flags q_great q_sizeAt q_start q_place gn gf tn tf hf hP hD hS (lv_sub hl [0, 1, 2] rfl))

abbrev wd_FR_readBlock (fr br g ga hs hsa t ta : Nat) (cB cI cJ : ClassId) (q_at : Int32) (q_most : Int32) (q_flags : Int32) (q_great : Int32) (q_sizeAt : Int32) (q_start : Int32) (q_place : Int32) (b_at : Int32) (b_end : Int32) (b_start : Int32) (b_most : Int32) (b_dist : Int32) (b_place : Int32) (gn : Int32) (gf : Nat → Int32) (hsn : Int32) (hsf : Nat → Int32) (tn : Int32) (tf : Nat → Int32) : va_W := [(fr, .inr (6, [.ref g, .ref t, .ref br, .int q_at, .int q_most, .int q_flags, .int q_great, .int q_sizeAt, .int q_start, .int q_place])), (br, .inr (5, [.ref g, .ref hs, .ref t, .int b_at, .int b_end, .int b_start, .int b_most, .int b_dist, .int b_place])), (g, .inr (1, [.ref ga, .int gn])), (ga, .inl (cB, 8000, .inl gf)), (hs, .inr (1, [.ref hsa, .int hsn])), (hsa, .inl (cB, 8000, .inl hsf)), (t, .inr (1, [.ref ta, .int tn])), (ta, .inl (cB, 8000, .inl tf))]
abbrev rm_FR_readBlock : Room := { frames := 4, cells := 0, slots := 0, locals := 94 }
section
variable {p : Program} {l : Launch} {e : Env} {s : State} {m : MethodId} {args : Array Value} {below : List Frame} {meth : Method} {c : Code} {dC : Nat → ClassId} {dI : Nat → Nat → Nat} {A : Nat → Prop} {cB cI cJ : ClassId} {H : Heap} {locs : List Loc} {ls : Array Slot} {N : Nat} {fr br g ga hs hsa t ta : Nat}
noncomputable def j_FR_readBlock_205 (t0 : Int32) (q_at : Int32) (b_at : Int32) (b_end : Int32) (b_start : Int32) (b_most : Int32) (b_dist : Int32) (b_place : Int32) (tn : Int32) (tf : Nat → Int32)  : Option (Int32 × Int32 × Int32 × Int32 × Int32 × Int32 × Int32 × Int32 × Int32 × Int32 × (Nat → Int32)) :=
  bd1 (f_BR_where b_place) (fun r209 => bd2 (f_FR_fault t0 r209) (fun r212 q_place_212 => (some (r212, q_at, q_place_212, b_at, b_end, b_start, b_most, b_dist, b_place, tn, tf) : Option (Int32 × Int32 × Int32 × Int32 × Int32 × Int32 × Int32 × Int32 × Int32 × Int32 × (Nat → Int32)))))
set_option maxHeartbeats 4000000 in
set_option maxRecDepth 100000 in
theorem k_FR_readBlock_205 {r_z : Int32} {q_at_z : Int32} {q_place_z : Int32} {b_at_z : Int32} {b_end_z : Int32} {b_start_z : Int32} {b_most_z : Int32} {b_dist_z : Int32} {b_place_z : Int32} {tn_z : Int32} {tf_z : Nat → Int32} (C : Fx p s m args meth c cd_FR_readBlock 7 R_FR lw_g (some .int)) (hK : va_K (dC, dI) vwCl [(cB, .byte), (cI, .int), (cJ, .long)] s) (hA : ∀ q, s.heap.size ≤ q → A q) (t0 : Int32) (q_at : Int32) (q_most : Int32) (q_flags : Int32) (q_great : Int32) (q_sizeAt : Int32) (q_start : Int32) (q_place : Int32) (b_at : Int32) (b_end : Int32) (b_start : Int32) (b_most : Int32) (b_dist : Int32) (b_place : Int32) (gn : Int32) (gf : Nat → Int32) (hsn : Int32) (hsf : Nat → Int32) (tn : Int32) (tf : Nat → Int32)  (hf : j_FR_readBlock_205 t0 q_at b_at b_end b_start b_most b_dist b_place tn tf  = some (r_z, q_at_z, q_place_z, b_at_z, b_end_z, b_start_z, b_most_z, b_dist_z, b_place_z, tn_z, tf_z)) (hP : va_P (dC, dI) vwCl (wd_FR_readBlock fr br g ga hs hsa t ta cB cI cJ q_at q_most q_flags q_great q_sizeAt q_start q_place b_at b_end b_start b_most b_dist b_place gn gf hsn hsf tn tf) H) (hD : va_D A (wd_FR_readBlock fr br g ga hs hsa t ta cB cI cJ q_at q_most q_flags q_great q_sizeAt q_start q_place b_at b_end b_start b_most b_dist b_place gn gf hsn hsf tn tf)) (hS : va_S A s.heap H locs) (hl : lv_has ls 7 [(0, .ref fr)]) : W p l e rm_FR_readBlock s m args below meth c H locs 0 0 (MQ below (sQi (dC, dI) vwCl [(cB, .byte), (cI, .int), (cJ, .long)] A r_z (wd_FR_readBlock fr br g ga hs hsa t ta cB cI cJ q_at_z q_most q_flags q_great q_sizeAt q_start q_place_z b_at_z b_end_z b_start_z b_most_z b_dist_z b_place_z gn gf hsn hsf tn_z tf_z)) args s 0 0 A) (F0 m 205 ls [.int t0, .ref fr]) := by
  obtain ⟨hx, hb, hml, hown, hts, hr, hlocks, hZ⟩ := id C
  unfold j_FR_readBlock_205 at hf
  refine lv_aload_n hx hb d_FR_readBlock_205 rfl (lv_at hl 0 rfl) ?_
  refine va_get (D := (dC, dI)) (ci := 6) (v := .ref br) (C := R_FR) (T := T_FR) (N := 10) hx hb hts w_278 hown hK hP 0 rfl rfl 2 (by decide) (hts _ w_308) (fun _ h9 => h9) rfl d_FR_readBlock_206 ?_
  obtain ⟨r209, hc209, hf⟩ := bd1_some hf
  refine s_Vi (As := []) (rest := [.int t0, .ref fr]) (wr := [(fr, .inr (6, [.ref g, .ref t, .ref br, .int q_at, .int q_most, .int q_flags, .int q_great, .int q_sizeAt, .int q_start, .int q_place])), (g, .inr (1, [.ref ga, .int gn])), (ga, .inl (cB, 8000, .inl gf)), (hs, .inr (1, [.ref hsa, .int hsn])), (hsa, .inl (cB, 8000, .inl hsf)), (t, .inr (1, [.ref ta, .int tn])), (ta, .inl (cB, 8000, .inl tf))]) (ws' := wd_FR_readBlock fr br g ga hs hsa t ta cB cI cJ q_at q_most q_flags q_great q_sizeAt q_start q_place b_at b_end b_start b_most b_dist b_place gn gf hsn hsf tn tf) C.call (c_BR_where l dC dI cB cI cJ br g hs t  b_at b_end b_start b_most b_dist b_place  hc209) (cwV 0 hts (gd_V w_311 w_275 w_276 w_242 w_277) rfl rfl rfl ⟨rfl, hd_BR_where⟩ ⟨Nat.le_of_ble_eq_true rfl, Nat.le_of_ble_eq_true rfl⟩) rfl hl.1 rfl (Nat.le_of_ble_eq_true rfl) d_FR_readBlock_209 ⟨Nat.le_of_ble_eq_true rfl, Nat.le_of_ble_eq_true rfl⟩ hZ hK hP hD hS hA 5 1 rfl rfl [1] [0, 2, 3, 4, 5, 6, 7] [0, 7, 1, 2, 3, 4, 5, 6] rfl rfl rfl rfl (by decide) rfl rfl (fun H locs hP hD hS => ?_)
  obtain ⟨r212, q_place_212, hc212, hf⟩ := bd2_some hf
  refine s_Vi (As := [.int t0, .int r209]) (rest := []) (wr := [(br, .inr (5, [.ref g, .ref hs, .ref t, .int b_at, .int b_end, .int b_start, .int b_most, .int b_dist, .int b_place])), (g, .inr (1, [.ref ga, .int gn])), (ga, .inl (cB, 8000, .inl gf)), (hs, .inr (1, [.ref hsa, .int hsn])), (hsa, .inl (cB, 8000, .inl hsf)), (t, .inr (1, [.ref ta, .int tn])), (ta, .inl (cB, 8000, .inl tf))]) (ws' := wd_FR_readBlock fr br g ga hs hsa t ta cB cI cJ q_at q_most q_flags q_great q_sizeAt q_start q_place_212 b_at b_end b_start b_most b_dist b_place gn gf hsn hsf tn tf) C.call (c_FR_fault l dC dI cB cI cJ fr g t br  q_at q_most q_flags q_great q_sizeAt q_start q_place t0 r209 hc212) (cwV 2 hts (gd_V w_282 w_283 w_284 w_285 w_286) rfl rfl rfl ⟨rfl, hd_FR_fault⟩ ⟨Nat.le_of_ble_eq_true rfl, Nat.le_of_ble_eq_true rfl⟩) rfl hl.1 rfl (Nat.le_of_ble_eq_true rfl) d_FR_readBlock_212 ⟨Nat.le_of_ble_eq_true rfl, Nat.le_of_ble_eq_true rfl⟩ hZ hK hP hD hS hA 6 0 rfl rfl [0] [1, 2, 3, 4, 5, 6, 7] [7, 0, 1, 2, 3, 4, 5, 6] rfl rfl rfl rfl (by decide) rfl rfl (fun H locs hP hD hS => ?_)
  cases hf
  exact s_iret hx hb hr hlocks hP hK hD hS d_FR_readBlock_215
noncomputable def j_FR_readBlock_182 (N : Nat) (t0 : Int32) (t1 : Int32) (t2 : Int32) (q_at : Int32) (q_most : Int32) (b_dist : Int32) (b_place : Int32) (gn : Int32) (gf : Nat → Int32) (hsn : Int32) (hsf : Nat → Int32) (tn : Int32) (tf : Nat → Int32)  : Option (Int32 × Int32 × Int32 × Int32 × Int32 × Int32 × Int32 × Int32 × Int32 × Int32 × (Nat → Int32)) :=
  bd9 (f_BR_read N t2 t1 t0 q_most b_dist b_place gn gf hsn hsf tn tf) (fun r186 b_at_186 b_end_186 b_start_186 b_most_186 b_dist_186 b_place_186 tn_186 tf_186 => (if r186 = (1 : Int32) then (j_FR_readBlock_205 (9 : Int32) q_at b_at_186 b_end_186 b_start_186 b_most_186 b_dist_186 b_place_186 tn_186 tf_186 ) else (j_FR_readBlock_205 r186 q_at b_at_186 b_end_186 b_start_186 b_most_186 b_dist_186 b_place_186 tn_186 tf_186 )))
set_option maxHeartbeats 4000000 in
set_option maxRecDepth 100000 in
theorem k_FR_readBlock_182 {r_z : Int32} {q_at_z : Int32} {q_place_z : Int32} {b_at_z : Int32} {b_end_z : Int32} {b_start_z : Int32} {b_most_z : Int32} {b_dist_z : Int32} {b_place_z : Int32} {tn_z : Int32} {tf_z : Nat → Int32} (C : Fx p s m args meth c cd_FR_readBlock 7 R_FR lw_g (some .int)) (hK : va_K (dC, dI) vwCl [(cB, .byte), (cI, .int), (cJ, .long)] s) (hA : ∀ q, s.heap.size ≤ q → A q) (t0 : Int32) (t1 : Int32) (t2 : Int32) (q_at : Int32) (q_most : Int32) (q_flags : Int32) (q_great : Int32) (q_sizeAt : Int32) (q_start : Int32) (q_place : Int32) (b_at : Int32) (b_end : Int32) (b_start : Int32) (b_most : Int32) (b_dist : Int32) (b_place : Int32) (gn : Int32) (gf : Nat → Int32) (hsn : Int32) (hsf : Nat → Int32) (tn : Int32) (tf : Nat → Int32)  (hf : j_FR_readBlock_182 N t0 t1 t2 q_at q_most b_dist b_place gn gf hsn hsf tn tf  = some (r_z, q_at_z, q_place_z, b_at_z, b_end_z, b_start_z, b_most_z, b_dist_z, b_place_z, tn_z, tf_z)) (hP : va_P (dC, dI) vwCl (wd_FR_readBlock fr br g ga hs hsa t ta cB cI cJ q_at q_most q_flags q_great q_sizeAt q_start q_place b_at b_end b_start b_most b_dist b_place gn gf hsn hsf tn tf) H) (hD : va_D A (wd_FR_readBlock fr br g ga hs hsa t ta cB cI cJ q_at q_most q_flags q_great q_sizeAt q_start q_place b_at b_end b_start b_most b_dist b_place gn gf hsn hsf tn tf)) (hS : va_S A s.heap H locs) (hl : lv_has ls 7 [(0, .ref fr)]) : W p l e rm_FR_readBlock s m args below meth c H locs 0 0 (MQ below (sQi (dC, dI) vwCl [(cB, .byte), (cI, .int), (cJ, .long)] A r_z (wd_FR_readBlock fr br g ga hs hsa t ta cB cI cJ q_at_z q_most q_flags q_great q_sizeAt q_start q_place_z b_at_z b_end_z b_start_z b_most_z b_dist_z b_place_z gn gf hsn hsf tn_z tf_z)) args s 0 0 A) (F0 m 182 ls [.int t0, .int t1, .int t2, .ref br]) := by
  obtain ⟨hx, hb, hml, hown, hts, hr, hlocks, hZ⟩ := id C
  unfold j_FR_readBlock_182 at hf
  refine lv_aload_n hx hb d_FR_readBlock_182 rfl (lv_at hl 0 rfl) ?_
  refine va_get (D := (dC, dI)) (ci := 6) (v := .int q_most) (C := R_FR) (T := T_FR) (N := 10) hx hb hts w_278 hown hK hP 0 rfl rfl 4 (by decide) (hts _ w_299) (fun _ h9 => h9) rfl d_FR_readBlock_183 ?_
  obtain ⟨r186, b_at_186, b_end_186, b_start_186, b_most_186, b_dist_186, b_place_186, tn_186, tf_186, hc186, hf⟩ := bd9_some hf
  refine s_Vi (As := [.int t2, .int t1, .int t0, .int q_most]) (rest := []) (wr := [(fr, .inr (6, [.ref g, .ref t, .ref br, .int q_at, .int q_most, .int q_flags, .int q_great, .int q_sizeAt, .int q_start, .int q_place]))]) (ws' := wd_FR_readBlock fr br g ga hs hsa t ta cB cI cJ q_at q_most q_flags q_great q_sizeAt q_start q_place b_at_186 b_end_186 b_start_186 b_most_186 b_dist_186 b_place_186 gn gf hsn hsf tn_186 tf_186) C.call (c_BR_read l dC dI cB cI cJ br g ga hs hsa t ta  b_at b_end b_start b_most b_dist b_place gn gf hsn hsf tn tf t2 t1 t0 q_most hc186) (cwV 4 hts (gd_V w_310 w_271 w_272 w_242 w_273) rfl rfl rfl ⟨rfl, hd_BR_read⟩ ⟨Nat.le_of_ble_eq_true rfl, Nat.le_of_ble_eq_true rfl⟩) rfl hl.1 rfl (Nat.le_of_ble_eq_true rfl) d_FR_readBlock_186 ⟨Nat.le_of_ble_eq_true rfl, Nat.le_of_ble_eq_true rfl⟩ hZ hK hP hD hS hA 5 1 rfl rfl [1, 2, 3, 4, 5, 6, 7] [0] [0, 1, 2, 3, 4, 5, 6, 7] rfl rfl rfl rfl (by decide) rfl rfl (fun H locs hP hD hS => ?_)
  refine lv_istore (lv' := [(6, .int r186), (0, .ref fr)]) hx hb d_FR_readBlock_189 hl (by decide) rfl (fun ls hl => ?_)
  refine lv_aload_n hx hb d_FR_readBlock_191 rfl (lv_at hl 1 rfl) ?_
  refine lv_iload hx hb d_FR_readBlock_192 (lv_at hl 0 rfl) ?_
  refine lv_iconst (v := 1) hx hb d_FR_readBlock_194 (by decide) ?_
  refine lv_icmp_ne (tgt := 203) hx hb d_FR_readBlock_195 (by decide) (fun c_195 => ?_) (fun c_195 => ?_)
  · have hf := br_neg c_195 hf
    refine lv_iload hx hb d_FR_readBlock_203 (lv_at hl 0 rfl) ?_
    exact k_FR_readBlock_205 C hK hA r186 q_at q_most q_flags q_great q_sizeAt q_start q_place b_at_186 b_end_186 b_start_186 b_most_186 b_dist_186 b_place_186 gn gf hsn hsf tn_186 tf_186  hf hP hD hS (lv_sub hl [1] rfl)
  · have hf := br_pos c_195 hf
    refine lv_bipush (v := 9) hx hb d_FR_readBlock_198 (by decide) ?_
    refine lv_goto (tgt := 205) hx hb d_FR_readBlock_200 (by decide) ?_
    exact k_FR_readBlock_205 C hK hA (9 : Int32) q_at q_most q_flags q_great q_sizeAt q_start q_place b_at_186 b_end_186 b_start_186 b_most_186 b_dist_186 b_place_186 gn gf hsn hsf tn_186 tf_186  hf hP hD hS (lv_sub hl [1] rfl)
noncomputable def j_FR_readBlock_122 (N : Nat) (x1 : Int32) (x3 : Int32) (x4 : Int32) (q_at : Int32) (q_most : Int32) (q_flags : Int32) (q_start : Int32) (q_place : Int32) (b_at : Int32) (b_end : Int32) (b_start : Int32) (b_most : Int32) (b_dist : Int32) (b_place : Int32) (gn : Int32) (gf : Nat → Int32) (hsn : Int32) (hsf : Nat → Int32) (tn : Int32) (tf : Nat → Int32)  : Option (Int32 × Int32 × Int32 × Int32 × Int32 × Int32 × Int32 × Int32 × Int32 × Int32 × (Nat → Int32)) :=
  (if 0 ≤ x1 then bd1 (f_FR_has (32 : Int32) q_flags) (fun r162 => (if r162 = 0 then (j_FR_readBlock_182 N q_start q_at x4 (q_at + x3) q_most b_dist b_place gn gf hsn hsf tn tf ) else bd1 (f_Row_count tn) (fun r172 => (j_FR_readBlock_182 N r172 q_at x4 (q_at + x3) q_most b_dist b_place gn gf hsn hsf tn tf )))) else bd4 (f_FR_takeBytes x4 q_at q_most q_place gn gf tn tf) (fun r147 q_place_147 tn_147 tf_147 => (some (r147, (q_at + x3), q_place_147, b_at, b_end, b_start, b_most, b_dist, b_place, tn_147, tf_147) : Option (Int32 × Int32 × Int32 × Int32 × Int32 × Int32 × Int32 × Int32 × Int32 × Int32 × (Nat → Int32)))))
set_option maxHeartbeats 4000000 in
set_option maxRecDepth 100000 in
theorem k_FR_readBlock_122 {r_z : Int32} {q_at_z : Int32} {q_place_z : Int32} {b_at_z : Int32} {b_end_z : Int32} {b_start_z : Int32} {b_most_z : Int32} {b_dist_z : Int32} {b_place_z : Int32} {tn_z : Int32} {tf_z : Nat → Int32} (C : Fx p s m args meth c cd_FR_readBlock 7 R_FR lw_g (some .int)) (hK : va_K (dC, dI) vwCl [(cB, .byte), (cI, .int), (cJ, .long)] s) (hA : ∀ q, s.heap.size ≤ q → A q) (x1 : Int32) (x3 : Int32) (x4 : Int32) (q_at : Int32) (q_most : Int32) (q_flags : Int32) (q_great : Int32) (q_sizeAt : Int32) (q_start : Int32) (q_place : Int32) (b_at : Int32) (b_end : Int32) (b_start : Int32) (b_most : Int32) (b_dist : Int32) (b_place : Int32) (gn : Int32) (gf : Nat → Int32) (hsn : Int32) (hsf : Nat → Int32) (tn : Int32) (tf : Nat → Int32)  (hf : j_FR_readBlock_122 N x1 x3 x4 q_at q_most q_flags q_start q_place b_at b_end b_start b_most b_dist b_place gn gf hsn hsf tn tf  = some (r_z, q_at_z, q_place_z, b_at_z, b_end_z, b_start_z, b_most_z, b_dist_z, b_place_z, tn_z, tf_z)) (hP : va_P (dC, dI) vwCl (wd_FR_readBlock fr br g ga hs hsa t ta cB cI cJ q_at q_most q_flags q_great q_sizeAt q_start q_place b_at b_end b_start b_most b_dist b_place gn gf hsn hsf tn tf) H) (hD : va_D A (wd_FR_readBlock fr br g ga hs hsa t ta cB cI cJ q_at q_most q_flags q_great q_sizeAt q_start q_place b_at b_end b_start b_most b_dist b_place gn gf hsn hsf tn tf)) (hS : va_S A s.heap H locs) (hl : lv_has ls 7 [(0, .ref fr), (1, .int x1), (3, .int x3), (4, .int x4)]) : W p l e rm_FR_readBlock s m args below meth c H locs 0 0 (MQ below (sQi (dC, dI) vwCl [(cB, .byte), (cI, .int), (cJ, .long)] A r_z (wd_FR_readBlock fr br g ga hs hsa t ta cB cI cJ q_at_z q_most q_flags q_great q_sizeAt q_start q_place_z b_at_z b_end_z b_start_z b_most_z b_dist_z b_place_z gn gf hsn hsf tn_z tf_z)) args s 0 0 A) (F0 m 122 ls []) := by
  obtain ⟨hx, hb, hml, hown, hts, hr, hlocks, hZ⟩ := id C
  unfold j_FR_readBlock_122 at hf
  refine lv_aload_n hx hb d_FR_readBlock_122 rfl (lv_at hl 0 rfl) ?_
  refine va_get (D := (dC, dI)) (ci := 6) (v := .int q_at) (C := R_FR) (T := T_FR) (N := 10) hx hb hts w_278 hown hK hP 0 rfl rfl 3 (by decide) (hts _ w_287) (fun _ h9 => h9) rfl d_FR_readBlock_123 ?_
  refine lv_istore (lv' := [(5, .int q_at), (0, .ref fr), (1, .int x1), (3, .int x3), (4, .int x4)]) hx hb d_FR_readBlock_126 hl (by decide) rfl (fun ls hl => ?_)
  refine lv_aload_n hx hb d_FR_readBlock_128 rfl (lv_at hl 1 rfl) ?_
  refine lv_dup hx hb d_FR_readBlock_129 rfl ?_
  refine va_get (D := (dC, dI)) (ci := 6) (v := .int q_at) (C := R_FR) (T := T_FR) (N := 10) hx hb hts w_278 hown hK hP 0 rfl rfl 3 (by decide) (hts _ w_287) (fun _ h9 => h9) rfl d_FR_readBlock_130 ?_
  refine lv_iload_n hx hb d_FR_readBlock_133 rfl (lv_at hl 3 rfl) ?_
  refine lv_iadd hx hb d_FR_readBlock_134 ?_
  refine va_put (D := (dC, dI)) (ci := 6) (v := .int (q_at + x3)) (ty := .int) (C := R_FR) (T := T_FR) (N := 10) hx hb hts w_278 ty_FR ty_FR_ok nm_FR hown hK hP hD hS 0 rfl rfl 3 (by decide) (hts _ w_287) (fun _ h9 => h9) rfl (by decide +kernel) rfl rfl (Nat.le_of_ble_eq_true rfl) d_FR_readBlock_135 (fun H locs hP hD hS => ?_)
  have hP : va_P (dC, dI) vwCl (wd_FR_readBlock fr br g ga hs hsa t ta cB cI cJ (q_at + x3) q_most q_flags q_great q_sizeAt q_start q_place b_at b_end b_start b_most b_dist b_place gn gf hsn hsf tn tf) H := hP
  have hD : va_D A (wd_FR_readBlock fr br g ga hs hsa t ta cB cI cJ (q_at + x3) q_most q_flags q_great q_sizeAt q_start q_place b_at b_end b_start b_most b_dist b_place gn gf hsn hsf tn tf) := hD
  refine lv_iload_n hx hb d_FR_readBlock_138 rfl (lv_at hl 2 rfl) ?_
  refine lv_if_ge (tgt := 151) hx hb d_FR_readBlock_139 (by decide) (fun c_139 => ?_) (fun c_139 => ?_)
  · have hf := br_pos c_139 hf
    refine lv_aload_n hx hb d_FR_readBlock_151 rfl (lv_at hl 1 rfl) ?_
    refine va_get (D := (dC, dI)) (ci := 6) (v := .ref br) (C := R_FR) (T := T_FR) (N := 10) hx hb hts w_278 hown hK hP 0 rfl rfl 2 (by decide) (hts _ w_308) (fun _ h9 => h9) rfl d_FR_readBlock_152 ?_
    refine lv_iload hx hb d_FR_readBlock_155 (lv_at hl 4 rfl) ?_
    refine lv_iload hx hb d_FR_readBlock_157 (lv_at hl 0 rfl) ?_
    refine lv_aload_n hx hb d_FR_readBlock_159 rfl (lv_at hl 1 rfl) ?_
    refine lv_bipush (v := 32) hx hb d_FR_readBlock_160 (by decide) ?_
    obtain ⟨r162, hc162, hf⟩ := bd1_some hf
    refine s_Vi (As := [.int (32 : Int32)]) (rest := [.int q_at, .int x4, .ref br]) (wr := [(br, .inr (5, [.ref g, .ref hs, .ref t, .int b_at, .int b_end, .int b_start, .int b_most, .int b_dist, .int b_place])), (g, .inr (1, [.ref ga, .int gn])), (ga, .inl (cB, 8000, .inl gf)), (hs, .inr (1, [.ref hsa, .int hsn])), (hsa, .inl (cB, 8000, .inl hsf)), (t, .inr (1, [.ref ta, .int tn])), (ta, .inl (cB, 8000, .inl tf))]) (ws' := wd_FR_readBlock fr br g ga hs hsa t ta cB cI cJ (q_at + x3) q_most q_flags q_great q_sizeAt q_start q_place b_at b_end b_start b_most b_dist b_place gn gf hsn hsf tn tf) C.call (c_FR_has l dC dI cB cI cJ fr g t br  (q_at + x3) q_most q_flags q_great q_sizeAt q_start q_place (32 : Int32) hc162) (cwV 1 hts (gd_V w_304 w_305 w_306 w_285 w_307) rfl rfl rfl ⟨rfl, hd_FR_has⟩ ⟨Nat.le_of_ble_eq_true rfl, Nat.le_of_ble_eq_true rfl⟩) rfl hl.1 rfl (Nat.le_of_ble_eq_true rfl) d_FR_readBlock_162 ⟨Nat.le_of_ble_eq_true rfl, Nat.le_of_ble_eq_true rfl⟩ hZ hK hP hD hS hA 6 0 rfl rfl [0] [1, 2, 3, 4, 5, 6, 7] [7, 0, 1, 2, 3, 4, 5, 6] rfl rfl rfl rfl (by decide) rfl rfl (fun H locs hP hD hS => ?_)
    refine lv_if_eq (tgt := 178) hx hb d_FR_readBlock_165 (by decide) (fun c_165 => ?_) (fun c_165 => ?_)
    · have hf := br_pos c_165 hf
      refine lv_aload_n hx hb d_FR_readBlock_178 rfl (lv_at hl 1 rfl) ?_
      refine va_get (D := (dC, dI)) (ci := 6) (v := .int q_start) (C := R_FR) (T := T_FR) (N := 10) hx hb hts w_278 hown hK hP 0 rfl rfl 8 (by decide) (hts _ w_309) (fun _ h9 => h9) rfl d_FR_readBlock_179 ?_
      exact k_FR_readBlock_182 C hK hA q_start q_at x4 (q_at + x3) q_most q_flags q_great q_sizeAt q_start q_place b_at b_end b_start b_most b_dist b_place gn gf hsn hsf tn tf  hf hP hD hS (lv_sub hl [1] rfl)
    · have hf := br_neg c_165 hf
      refine lv_aload_n hx hb d_FR_readBlock_168 rfl (lv_at hl 1 rfl) ?_
      refine va_get (D := (dC, dI)) (ci := 6) (v := .ref t) (C := R_FR) (T := T_FR) (N := 10) hx hb hts w_278 hown hK hP 0 rfl rfl 1 (by decide) (hts _ w_300) (fun _ h9 => h9) rfl d_FR_readBlock_169 ?_
      obtain ⟨r172, hc172, hf⟩ := bd1_some hf
      refine s_Vi (As := []) (rest := [.int q_at, .int x4, .ref br]) (wr := [(fr, .inr (6, [.ref g, .ref t, .ref br, .int (q_at + x3), .int q_most, .int q_flags, .int q_great, .int q_sizeAt, .int q_start, .int q_place])), (br, .inr (5, [.ref g, .ref hs, .ref t, .int b_at, .int b_end, .int b_start, .int b_most, .int b_dist, .int b_place])), (g, .inr (1, [.ref ga, .int gn])), (ga, .inl (cB, 8000, .inl gf)), (hs, .inr (1, [.ref hsa, .int hsn])), (hsa, .inl (cB, 8000, .inl hsf)), (ta, .inl (cB, 8000, .inl tf))]) (ws' := wd_FR_readBlock fr br g ga hs hsa t ta cB cI cJ (q_at + x3) q_most q_flags q_great q_sizeAt q_start q_place b_at b_end b_start b_most b_dist b_place gn gf hsn hsf tn tf) C.call (c_Row_count l dC dI cB cI cJ t ta  tn  hc172) (cwV 0 hts (gd_V w_281 w_10 w_11 w_12 w_13) rfl rfl rfl ⟨rfl, hd_Row_count⟩ ⟨Nat.le_of_ble_eq_true rfl, Nat.le_of_ble_eq_true rfl⟩) rfl hl.1 rfl (Nat.le_of_ble_eq_true rfl) d_FR_readBlock_172 ⟨Nat.le_of_ble_eq_true rfl, Nat.le_of_ble_eq_true rfl⟩ hZ hK hP hD hS hA 1 6 rfl rfl [6] [0, 1, 2, 3, 4, 5, 7] [0, 1, 2, 3, 4, 5, 7, 6] rfl rfl rfl rfl (by decide) rfl rfl (fun H locs hP hD hS => ?_)
      refine lv_goto (tgt := 182) hx hb d_FR_readBlock_175 (by decide) ?_
      exact k_FR_readBlock_182 C hK hA r172 q_at x4 (q_at + x3) q_most q_flags q_great q_sizeAt q_start q_place b_at b_end b_start b_most b_dist b_place gn gf hsn hsf tn tf  hf hP hD hS (lv_sub hl [1] rfl)
  · have hf := br_neg c_139 hf
    refine lv_aload_n hx hb d_FR_readBlock_142 rfl (lv_at hl 1 rfl) ?_
    refine lv_iload hx hb d_FR_readBlock_143 (lv_at hl 4 rfl) ?_
    refine lv_iload hx hb d_FR_readBlock_145 (lv_at hl 0 rfl) ?_
    obtain ⟨r147, q_place_147, tn_147, tf_147, hc147, hf⟩ := bd4_some hf
    refine s_Vi (As := [.int x4, .int q_at]) (rest := []) (wr := [(br, .inr (5, [.ref g, .ref hs, .ref t, .int b_at, .int b_end, .int b_start, .int b_most, .int b_dist, .int b_place])), (hs, .inr (1, [.ref hsa, .int hsn])), (hsa, .inl (cB, 8000, .inl hsf))]) (ws' := wd_FR_readBlock fr br g ga hs hsa t ta cB cI cJ (q_at + x3) q_most q_flags q_great q_sizeAt q_start q_place_147 b_at b_end b_start b_most b_dist b_place gn gf hsn hsf tn_147 tf_147) C.call (c_FR_takeBytes l dC dI cB cI cJ fr g ga t ta br  (q_at + x3) q_most q_flags q_great q_sizeAt q_start q_place gn gf tn tf x4 q_at hc147) (cwV 2 hts (gd_V w_312 w_313 w_314 w_285 w_315) rfl rfl rfl ⟨rfl, hd_FR_takeBytes⟩ ⟨Nat.le_of_ble_eq_true rfl, Nat.le_of_ble_eq_true rfl⟩) rfl hl.1 rfl (Nat.le_of_ble_eq_true rfl) d_FR_readBlock_147 ⟨Nat.le_of_ble_eq_true rfl, Nat.le_of_ble_eq_true rfl⟩ hZ hK hP hD hS hA 6 0 rfl rfl [0, 2, 3, 6, 7] [1, 4, 5] [3, 0, 4, 5, 1, 2, 6, 7] rfl rfl rfl rfl (by decide) rfl rfl (fun H locs hP hD hS => ?_)
    cases hf
    exact s_iret hx hb hr hlocks hP hK hD hS d_FR_readBlock_150
noncomputable def j_FR_readBlock_48 (N : Nat) (x1 : Int32) (x2 : Int32) (t0 : Int32) (q_at : Int32) (q_most : Int32) (q_flags : Int32) (q_start : Int32) (q_place : Int32) (b_at : Int32) (b_end : Int32) (b_start : Int32) (b_most : Int32) (b_dist : Int32) (b_place : Int32) (gn : Int32) (gf : Nat → Int32) (hsn : Int32) (hsf : Nat → Int32) (tn : Int32) (tf : Nat → Int32)  : Option (Int32 × Int32 × Int32 × Int32 × Int32 × Int32 × Int32 × Int32 × Int32 × Int32 × (Nat → Int32)) :=
  bd1 (f_FR_left q_at gn) (fun r50 => (if (x2 + t0) ≤ r50 then (if t0 ≤ 0 then (j_FR_readBlock_122 N x1 t0 q_at (q_at + x2) q_most q_flags q_start q_place b_at b_end b_start b_most b_dist b_place gn gf hsn hsf tn tf ) else bd1 (f_Row_word 8000 (q_at + x2) gn gf) (fun r92 => bd1 (f_Sum_of N 8000 q_at (q_at + x2) gn gf) (fun r105 => (if r92 = r105 then (j_FR_readBlock_122 N x1 t0 q_at (q_at + x2) q_most q_flags q_start q_place b_at b_end b_start b_most b_dist b_place gn gf hsn hsf tn tf ) else bd2 (f_FR_fault (8 : Int32) (q_at + x2)) (fun r118 q_place_118 => (some (r118, (q_at + x2), q_place_118, b_at, b_end, b_start, b_most, b_dist, b_place, tn, tf) : Option (Int32 × Int32 × Int32 × Int32 × Int32 × Int32 × Int32 × Int32 × Int32 × Int32 × (Nat → Int32)))))))) else bd2 (f_FR_cut gn) (fun r60 q_place_60 => (some (r60, q_at, q_place_60, b_at, b_end, b_start, b_most, b_dist, b_place, tn, tf) : Option (Int32 × Int32 × Int32 × Int32 × Int32 × Int32 × Int32 × Int32 × Int32 × Int32 × (Nat → Int32))))))
set_option maxHeartbeats 4000000 in
set_option maxRecDepth 100000 in
theorem k_FR_readBlock_48 {r_z : Int32} {q_at_z : Int32} {q_place_z : Int32} {b_at_z : Int32} {b_end_z : Int32} {b_start_z : Int32} {b_most_z : Int32} {b_dist_z : Int32} {b_place_z : Int32} {tn_z : Int32} {tf_z : Nat → Int32} (C : Fx p s m args meth c cd_FR_readBlock 7 R_FR lw_g (some .int)) (hK : va_K (dC, dI) vwCl [(cB, .byte), (cI, .int), (cJ, .long)] s) (hA : ∀ q, s.heap.size ≤ q → A q) (x1 : Int32) (x2 : Int32) (t0 : Int32) (q_at : Int32) (q_most : Int32) (q_flags : Int32) (q_great : Int32) (q_sizeAt : Int32) (q_start : Int32) (q_place : Int32) (b_at : Int32) (b_end : Int32) (b_start : Int32) (b_most : Int32) (b_dist : Int32) (b_place : Int32) (gn : Int32) (gf : Nat → Int32) (hsn : Int32) (hsf : Nat → Int32) (tn : Int32) (tf : Nat → Int32)  (hf : j_FR_readBlock_48 N x1 x2 t0 q_at q_most q_flags q_start q_place b_at b_end b_start b_most b_dist b_place gn gf hsn hsf tn tf  = some (r_z, q_at_z, q_place_z, b_at_z, b_end_z, b_start_z, b_most_z, b_dist_z, b_place_z, tn_z, tf_z)) (hP : va_P (dC, dI) vwCl (wd_FR_readBlock fr br g ga hs hsa t ta cB cI cJ q_at q_most q_flags q_great q_sizeAt q_start q_place b_at b_end b_start b_most b_dist b_place gn gf hsn hsf tn tf) H) (hD : va_D A (wd_FR_readBlock fr br g ga hs hsa t ta cB cI cJ q_at q_most q_flags q_great q_sizeAt q_start q_place b_at b_end b_start b_most b_dist b_place gn gf hsn hsf tn tf)) (hS : va_S A s.heap H locs) (hl : lv_has ls 7 [(0, .ref fr), (1, .int x1), (2, .int x2)]) : W p l e rm_FR_readBlock s m args below meth c H locs 0 0 (MQ below (sQi (dC, dI) vwCl [(cB, .byte), (cI, .int), (cJ, .long)] A r_z (wd_FR_readBlock fr br g ga hs hsa t ta cB cI cJ q_at_z q_most q_flags q_great q_sizeAt q_start q_place_z b_at_z b_end_z b_start_z b_most_z b_dist_z b_place_z gn gf hsn hsf tn_z tf_z)) args s 0 0 A) (F0 m 48 ls [.int t0]) := by
  obtain ⟨hx, hb, hml, hown, hts, hr, hlocks, hZ⟩ := id C
  unfold j_FR_readBlock_48 at hf
  refine lv_istore_n (lv' := [(3, .int t0), (0, .ref fr), (1, .int x1), (2, .int x2)]) hx hb d_FR_readBlock_48 rfl hl (by decide) rfl (fun ls hl => ?_)
  refine lv_aload_n hx hb d_FR_readBlock_49 rfl (lv_at hl 1 rfl) ?_
  obtain ⟨r50, hc50, hf⟩ := bd1_some hf
  refine s_Vi (As := []) (rest := []) (wr := [(br, .inr (5, [.ref g, .ref hs, .ref t, .int b_at, .int b_end, .int b_start, .int b_most, .int b_dist, .int b_place])), (ga, .inl (cB, 8000, .inl gf)), (hs, .inr (1, [.ref hsa, .int hsn])), (hsa, .inl (cB, 8000, .inl hsf)), (t, .inr (1, [.ref ta, .int tn])), (ta, .inl (cB, 8000, .inl tf))]) (ws' := wd_FR_readBlock fr br g ga hs hsa t ta cB cI cJ q_at q_most q_flags q_great q_sizeAt q_start q_place b_at b_end b_start b_most b_dist b_place gn gf hsn hsf tn tf) C.call (c_FR_left l dC dI cB cI cJ fr g t br ga  q_at q_most q_flags q_great q_sizeAt q_start q_place gn  hc50) (cwV 0 hts (gd_V w_288 w_289 w_290 w_285 w_291) rfl rfl rfl ⟨rfl, hd_FR_left⟩ ⟨Nat.le_of_ble_eq_true rfl, Nat.le_of_ble_eq_true rfl⟩) rfl hl.1 rfl (Nat.le_of_ble_eq_true rfl) d_FR_readBlock_50 ⟨Nat.le_of_ble_eq_true rfl, Nat.le_of_ble_eq_true rfl⟩ hZ hK hP hD hS hA 6 0 rfl rfl [0, 2] [1, 3, 4, 5, 6, 7] [6, 0, 7, 1, 2, 3, 4, 5] rfl rfl rfl rfl (by decide) rfl rfl (fun H locs hP hD hS => ?_)
  refine lv_iload_n hx hb d_FR_readBlock_53 rfl (lv_at hl 3 rfl) ?_
  refine lv_iload_n hx hb d_FR_readBlock_54 rfl (lv_at hl 0 rfl) ?_
  refine lv_iadd hx hb d_FR_readBlock_55 ?_
  refine lv_icmp_ge (tgt := 64) hx hb d_FR_readBlock_56 (by decide) (fun c_56 => ?_) (fun c_56 => ?_)
  · have hf := br_pos c_56 hf
    refine lv_aload_n hx hb d_FR_readBlock_64 rfl (lv_at hl 1 rfl) ?_
    refine va_get (D := (dC, dI)) (ci := 6) (v := .int q_at) (C := R_FR) (T := T_FR) (N := 10) hx hb hts w_278 hown hK hP 0 rfl rfl 3 (by decide) (hts _ w_287) (fun _ h9 => h9) rfl d_FR_readBlock_65 ?_
    refine lv_istore (lv' := [(4, .int q_at), (3, .int t0), (0, .ref fr), (1, .int x1), (2, .int x2)]) hx hb d_FR_readBlock_68 hl (by decide) rfl (fun ls hl => ?_)
    refine lv_aload_n hx hb d_FR_readBlock_70 rfl (lv_at hl 2 rfl) ?_
    refine lv_dup hx hb d_FR_readBlock_71 rfl ?_
    refine va_get (D := (dC, dI)) (ci := 6) (v := .int q_at) (C := R_FR) (T := T_FR) (N := 10) hx hb hts w_278 hown hK hP 0 rfl rfl 3 (by decide) (hts _ w_287) (fun _ h9 => h9) rfl d_FR_readBlock_72 ?_
    refine lv_iload_n hx hb d_FR_readBlock_75 rfl (lv_at hl 4 rfl) ?_
    refine lv_iadd hx hb d_FR_readBlock_76 ?_
    refine va_put (D := (dC, dI)) (ci := 6) (v := .int (q_at + x2)) (ty := .int) (C := R_FR) (T := T_FR) (N := 10) hx hb hts w_278 ty_FR ty_FR_ok nm_FR hown hK hP hD hS 0 rfl rfl 3 (by decide) (hts _ w_287) (fun _ h9 => h9) rfl (by decide +kernel) rfl rfl (Nat.le_of_ble_eq_true rfl) d_FR_readBlock_77 (fun H locs hP hD hS => ?_)
    have hP : va_P (dC, dI) vwCl (wd_FR_readBlock fr br g ga hs hsa t ta cB cI cJ (q_at + x2) q_most q_flags q_great q_sizeAt q_start q_place b_at b_end b_start b_most b_dist b_place gn gf hsn hsf tn tf) H := hP
    have hD : va_D A (wd_FR_readBlock fr br g ga hs hsa t ta cB cI cJ (q_at + x2) q_most q_flags q_great q_sizeAt q_start q_place b_at b_end b_start b_most b_dist b_place gn gf hsn hsf tn tf) := hD
    refine lv_iload_n hx hb d_FR_readBlock_80 rfl (lv_at hl 1 rfl) ?_
    refine lv_if_le (tgt := 122) hx hb d_FR_readBlock_81 (by decide) (fun c_81 => ?_) (fun c_81 => ?_)
    · have hf := br_pos c_81 hf
      exact k_FR_readBlock_122 C hK hA x1 t0 q_at (q_at + x2) q_most q_flags q_great q_sizeAt q_start q_place b_at b_end b_start b_most b_dist b_place gn gf hsn hsf tn tf  hf hP hD hS (lv_sub hl [2, 3, 1, 0] rfl)
    · have hf := br_neg c_81 hf
      refine lv_aload_n hx hb d_FR_readBlock_84 rfl (lv_at hl 2 rfl) ?_
      refine va_get (D := (dC, dI)) (ci := 6) (v := .ref g) (C := R_FR) (T := T_FR) (N := 10) hx hb hts w_278 hown hK hP 0 rfl rfl 0 (by decide) (hts _ w_280) (fun _ h9 => h9) rfl d_FR_readBlock_85 ?_
      refine lv_aload_n hx hb d_FR_readBlock_88 rfl (lv_at hl 2 rfl) ?_
      refine va_get (D := (dC, dI)) (ci := 6) (v := .int (q_at + x2)) (C := R_FR) (T := T_FR) (N := 10) hx hb hts w_278 hown hK hP 0 rfl rfl 3 (by decide) (hts _ w_287) (fun _ h9 => h9) rfl d_FR_readBlock_89 ?_
      obtain ⟨r92, hc92, hf⟩ := bd1_some hf
      refine s_Vi (As := [.int (q_at + x2)]) (rest := []) (wr := [(fr, .inr (6, [.ref g, .ref t, .ref br, .int (q_at + x2), .int q_most, .int q_flags, .int q_great, .int q_sizeAt, .int q_start, .int q_place])), (br, .inr (5, [.ref g, .ref hs, .ref t, .int b_at, .int b_end, .int b_start, .int b_most, .int b_dist, .int b_place])), (hs, .inr (1, [.ref hsa, .int hsn])), (hsa, .inl (cB, 8000, .inl hsf)), (t, .inr (1, [.ref ta, .int tn])), (ta, .inl (cB, 8000, .inl tf))]) (ws' := wd_FR_readBlock fr br g ga hs hsa t ta cB cI cJ (q_at + x2) q_most q_flags q_great q_sizeAt q_start q_place b_at b_end b_start b_most b_dist b_place gn gf hsn hsf tn tf) C.call (c_Row_word l dC dI cB cI cJ g ga 8000 gn gf (q_at + x2) hc92) (cwV 1 hts (gd_V w_292 w_59 w_60 w_12 w_61) rfl rfl rfl ⟨rfl, hd_Row_word⟩ ⟨Nat.le_of_ble_eq_true rfl, Nat.le_of_ble_eq_true rfl⟩) rfl hl.1 rfl (Nat.le_of_ble_eq_true rfl) d_FR_readBlock_92 ⟨Nat.le_of_ble_eq_true rfl, Nat.le_of_ble_eq_true rfl⟩ hZ hK hP hD hS hA 1 2 rfl rfl [2, 3] [0, 1, 4, 5, 6, 7] [0, 1, 6, 7, 2, 3, 4, 5] rfl rfl rfl rfl (by decide) rfl rfl (fun H locs hP hD hS => ?_)
      refine lv_aload_n hx hb d_FR_readBlock_95 rfl (lv_at hl 2 rfl) ?_
      refine va_get (D := (dC, dI)) (ci := 6) (v := .ref g) (C := R_FR) (T := T_FR) (N := 10) hx hb hts w_278 hown hK hP 0 rfl rfl 0 (by decide) (hts _ w_280) (fun _ h9 => h9) rfl d_FR_readBlock_96 ?_
      refine lv_iload hx hb d_FR_readBlock_99 (lv_at hl 0 rfl) ?_
      refine lv_aload_n hx hb d_FR_readBlock_101 rfl (lv_at hl 2 rfl) ?_
      refine va_get (D := (dC, dI)) (ci := 6) (v := .int (q_at + x2)) (C := R_FR) (T := T_FR) (N := 10) hx hb hts w_278 hown hK hP 0 rfl rfl 3 (by decide) (hts _ w_287) (fun _ h9 => h9) rfl d_FR_readBlock_102 ?_
      obtain ⟨r105, hc105, hf⟩ := bd1_some hf
      refine s_Si (As := [.ref g, .int q_at, .int (q_at + x2)]) (rest := [.int r92]) (wr := [(fr, .inr (6, [.ref g, .ref t, .ref br, .int (q_at + x2), .int q_most, .int q_flags, .int q_great, .int q_sizeAt, .int q_start, .int q_place])), (br, .inr (5, [.ref g, .ref hs, .ref t, .int b_at, .int b_end, .int b_start, .int b_most, .int b_dist, .int b_place])), (hs, .inr (1, [.ref hsa, .int hsn])), (hsa, .inl (cB, 8000, .inl hsf)), (t, .inr (1, [.ref ta, .int tn])), (ta, .inl (cB, 8000, .inl tf))]) (ws' := wd_FR_readBlock fr br g ga hs hsa t ta cB cI cJ (q_at + x2) q_most q_flags q_great q_sizeAt q_start q_place b_at b_end b_start b_most b_dist b_place gn gf hsn hsf tn tf) C.call (c_Sum_of l dC dI cB cI cJ g ga 8000 gn gf q_at (q_at + x2) hc105) (va_cwS 3 hts (gd_S w_316 w_175 w_149 w_176) rfl rfl rfl hd_Sum_of ⟨Nat.le_of_ble_eq_true rfl, Nat.le_of_ble_eq_true rfl⟩) rfl hl.1 rfl (Nat.le_of_ble_eq_true rfl) d_FR_readBlock_105 ⟨Nat.le_of_ble_eq_true rfl, Nat.le_of_ble_eq_true rfl⟩ hZ hK hP hD hS hA [2, 3] [0, 1, 4, 5, 6, 7] [0, 1, 6, 7, 2, 3, 4, 5] rfl rfl rfl rfl (by decide) rfl rfl (fun H locs hP hD hS => ?_)
      refine lv_icmp_eq (tgt := 122) hx hb d_FR_readBlock_108 (by decide) (fun c_108 => ?_) (fun c_108 => ?_)
      · have hf := br_pos c_108 hf
        exact k_FR_readBlock_122 C hK hA x1 t0 q_at (q_at + x2) q_most q_flags q_great q_sizeAt q_start q_place b_at b_end b_start b_most b_dist b_place gn gf hsn hsf tn tf  hf hP hD hS (lv_sub hl [2, 3, 1, 0] rfl)
      · have hf := br_neg c_108 hf
        refine lv_aload_n hx hb d_FR_readBlock_111 rfl (lv_at hl 2 rfl) ?_
        refine lv_bipush (v := 8) hx hb d_FR_readBlock_112 (by decide) ?_
        refine lv_aload_n hx hb d_FR_readBlock_114 rfl (lv_at hl 2 rfl) ?_
        refine va_get (D := (dC, dI)) (ci := 6) (v := .int (q_at + x2)) (C := R_FR) (T := T_FR) (N := 10) hx hb hts w_278 hown hK hP 0 rfl rfl 3 (by decide) (hts _ w_287) (fun _ h9 => h9) rfl d_FR_readBlock_115 ?_
        obtain ⟨r118, q_place_118, hc118, hf⟩ := bd2_some hf
        refine s_Vi (As := [.int (8 : Int32), .int (q_at + x2)]) (rest := []) (wr := [(br, .inr (5, [.ref g, .ref hs, .ref t, .int b_at, .int b_end, .int b_start, .int b_most, .int b_dist, .int b_place])), (g, .inr (1, [.ref ga, .int gn])), (ga, .inl (cB, 8000, .inl gf)), (hs, .inr (1, [.ref hsa, .int hsn])), (hsa, .inl (cB, 8000, .inl hsf)), (t, .inr (1, [.ref ta, .int tn])), (ta, .inl (cB, 8000, .inl tf))]) (ws' := wd_FR_readBlock fr br g ga hs hsa t ta cB cI cJ (q_at + x2) q_most q_flags q_great q_sizeAt q_start q_place_118 b_at b_end b_start b_most b_dist b_place gn gf hsn hsf tn tf) C.call (c_FR_fault l dC dI cB cI cJ fr g t br  (q_at + x2) q_most q_flags q_great q_sizeAt q_start q_place (8 : Int32) (q_at + x2) hc118) (cwV 2 hts (gd_V w_282 w_283 w_284 w_285 w_286) rfl rfl rfl ⟨rfl, hd_FR_fault⟩ ⟨Nat.le_of_ble_eq_true rfl, Nat.le_of_ble_eq_true rfl⟩) rfl hl.1 rfl (Nat.le_of_ble_eq_true rfl) d_FR_readBlock_118 ⟨Nat.le_of_ble_eq_true rfl, Nat.le_of_ble_eq_true rfl⟩ hZ hK hP hD hS hA 6 0 rfl rfl [0] [1, 2, 3, 4, 5, 6, 7] [7, 0, 1, 2, 3, 4, 5, 6] rfl rfl rfl rfl (by decide) rfl rfl (fun H locs hP hD hS => ?_)
        cases hf
        exact s_iret hx hb hr hlocks hP hK hD hS d_FR_readBlock_121
  · have hf := br_neg c_56 hf
    refine lv_aload_n hx hb d_FR_readBlock_59 rfl (lv_at hl 1 rfl) ?_
    obtain ⟨r60, q_place_60, hc60, hf⟩ := bd2_some hf
    refine s_Vi (As := []) (rest := []) (wr := [(br, .inr (5, [.ref g, .ref hs, .ref t, .int b_at, .int b_end, .int b_start, .int b_most, .int b_dist, .int b_place])), (ga, .inl (cB, 8000, .inl gf)), (hs, .inr (1, [.ref hsa, .int hsn])), (hsa, .inl (cB, 8000, .inl hsf)), (t, .inr (1, [.ref ta, .int tn])), (ta, .inl (cB, 8000, .inl tf))]) (ws' := wd_FR_readBlock fr br g ga hs hsa t ta cB cI cJ q_at q_most q_flags q_great q_sizeAt q_start q_place_60 b_at b_end b_start b_most b_dist b_place gn gf hsn hsf tn tf) C.call (c_FR_cut l dC dI cB cI cJ fr g t br ga  q_at q_most q_flags q_great q_sizeAt q_start q_place gn  hc60) (cwV 0 hts (gd_V w_294 w_295 w_296 w_285 w_297) rfl rfl rfl ⟨rfl, hd_FR_cut⟩ ⟨Nat.le_of_ble_eq_true rfl, Nat.le_of_ble_eq_true rfl⟩) rfl hl.1 rfl (Nat.le_of_ble_eq_true rfl) d_FR_readBlock_60 ⟨Nat.le_of_ble_eq_true rfl, Nat.le_of_ble_eq_true rfl⟩ hZ hK hP hD hS hA 6 0 rfl rfl [0, 2] [1, 3, 4, 5, 6, 7] [6, 0, 7, 1, 2, 3, 4, 5] rfl rfl rfl rfl (by decide) rfl rfl (fun H locs hP hD hS => ?_)
    cases hf
    exact s_iret hx hb hr hlocks hP hK hD hS d_FR_readBlock_63
noncomputable def j_FR_readBlock_0 (N : Nat) (x1 : Int32) (q_at : Int32) (q_most : Int32) (q_flags : Int32) (q_great : Int32) (q_start : Int32) (q_place : Int32) (b_at : Int32) (b_end : Int32) (b_start : Int32) (b_most : Int32) (b_dist : Int32) (b_place : Int32) (gn : Int32) (gf : Nat → Int32) (hsn : Int32) (hsf : Nat → Int32) (tn : Int32) (tf : Nat → Int32)  : Option (Int32 × Int32 × Int32 × Int32 × Int32 × Int32 × Int32 × Int32 × Int32 × Int32 × (Nat → Int32)) :=
  (if (x1 &&& (2147483647 : Int32)) ≤ q_great then bd1 (f_FR_has (16 : Int32) q_flags) (fun r37 => (if r37 = 0 then (j_FR_readBlock_48 N x1 (x1 &&& (2147483647 : Int32)) (0 : Int32) (q_at + (4 : Int32)) q_most q_flags q_start q_place b_at b_end b_start b_most b_dist b_place gn gf hsn hsf tn tf ) else (j_FR_readBlock_48 N x1 (x1 &&& (2147483647 : Int32)) (4 : Int32) (q_at + (4 : Int32)) q_most q_flags q_start q_place b_at b_end b_start b_most b_dist b_place gn gf hsn hsf tn tf ))) else bd2 (f_FR_fault (7 : Int32) q_at) (fun r20 q_place_20 => (some (r20, q_at, q_place_20, b_at, b_end, b_start, b_most, b_dist, b_place, tn, tf) : Option (Int32 × Int32 × Int32 × Int32 × Int32 × Int32 × Int32 × Int32 × Int32 × Int32 × (Nat → Int32)))))
set_option maxHeartbeats 4000000 in
set_option maxRecDepth 100000 in
theorem k_FR_readBlock_0 {r_z : Int32} {q_at_z : Int32} {q_place_z : Int32} {b_at_z : Int32} {b_end_z : Int32} {b_start_z : Int32} {b_most_z : Int32} {b_dist_z : Int32} {b_place_z : Int32} {tn_z : Int32} {tf_z : Nat → Int32} (C : Fx p s m args meth c cd_FR_readBlock 7 R_FR lw_g (some .int)) (hK : va_K (dC, dI) vwCl [(cB, .byte), (cI, .int), (cJ, .long)] s) (hA : ∀ q, s.heap.size ≤ q → A q) (x1 : Int32) (q_at : Int32) (q_most : Int32) (q_flags : Int32) (q_great : Int32) (q_sizeAt : Int32) (q_start : Int32) (q_place : Int32) (b_at : Int32) (b_end : Int32) (b_start : Int32) (b_most : Int32) (b_dist : Int32) (b_place : Int32) (gn : Int32) (gf : Nat → Int32) (hsn : Int32) (hsf : Nat → Int32) (tn : Int32) (tf : Nat → Int32)  (hf : j_FR_readBlock_0 N x1 q_at q_most q_flags q_great q_start q_place b_at b_end b_start b_most b_dist b_place gn gf hsn hsf tn tf  = some (r_z, q_at_z, q_place_z, b_at_z, b_end_z, b_start_z, b_most_z, b_dist_z, b_place_z, tn_z, tf_z)) (hP : va_P (dC, dI) vwCl (wd_FR_readBlock fr br g ga hs hsa t ta cB cI cJ q_at q_most q_flags q_great q_sizeAt q_start q_place b_at b_end b_start b_most b_dist b_place gn gf hsn hsf tn tf) H) (hD : va_D A (wd_FR_readBlock fr br g ga hs hsa t ta cB cI cJ q_at q_most q_flags q_great q_sizeAt q_start q_place b_at b_end b_start b_most b_dist b_place gn gf hsn hsf tn tf)) (hS : va_S A s.heap H locs) (hl : lv_has ls 7 [(0, .ref fr), (1, .int x1)]) : W p l e rm_FR_readBlock s m args below meth c H locs 0 0 (MQ below (sQi (dC, dI) vwCl [(cB, .byte), (cI, .int), (cJ, .long)] A r_z (wd_FR_readBlock fr br g ga hs hsa t ta cB cI cJ q_at_z q_most q_flags q_great q_sizeAt q_start q_place_z b_at_z b_end_z b_start_z b_most_z b_dist_z b_place_z gn gf hsn hsf tn_z tf_z)) args s 0 0 A) (F0 m 0 ls []) := by
  obtain ⟨hx, hb, hml, hown, hts, hr, hlocks, hZ⟩ := id C
  unfold j_FR_readBlock_0 at hf
  refine lv_iload_n hx hb d_FR_readBlock_0 rfl (lv_at hl 1 rfl) ?_
  refine lv_ldc (v := 2147483647) hx hb hown (hts _ w_302) d_FR_readBlock_1 ?_
  refine lv_iand hx hb d_FR_readBlock_3 ?_
  refine lv_istore_n (lv' := [(2, .int (x1 &&& (2147483647 : Int32))), (0, .ref fr), (1, .int x1)]) hx hb d_FR_readBlock_4 rfl hl (by decide) rfl (fun ls hl => ?_)
  refine lv_iload_n hx hb d_FR_readBlock_5 rfl (lv_at hl 0 rfl) ?_
  refine lv_aload_n hx hb d_FR_readBlock_6 rfl (lv_at hl 1 rfl) ?_
  refine va_get (D := (dC, dI)) (ci := 6) (v := .int q_great) (C := R_FR) (T := T_FR) (N := 10) hx hb hts w_278 hown hK hP 0 rfl rfl 6 (by decide) (hts _ w_303) (fun _ h9 => h9) rfl d_FR_readBlock_7 ?_
  refine lv_icmp_le (tgt := 24) hx hb d_FR_readBlock_10 (by decide) (fun c_10 => ?_) (fun c_10 => ?_)
  · have hf := br_pos c_10 hf
    refine lv_aload_n hx hb d_FR_readBlock_24 rfl (lv_at hl 1 rfl) ?_
    refine lv_dup hx hb d_FR_readBlock_25 rfl ?_
    refine va_get (D := (dC, dI)) (ci := 6) (v := .int q_at) (C := R_FR) (T := T_FR) (N := 10) hx hb hts w_278 hown hK hP 0 rfl rfl 3 (by decide) (hts _ w_287) (fun _ h9 => h9) rfl d_FR_readBlock_26 ?_
    refine lv_iconst (v := 4) hx hb d_FR_readBlock_29 (by decide) ?_
    refine lv_iadd hx hb d_FR_readBlock_30 ?_
    refine va_put (D := (dC, dI)) (ci := 6) (v := .int (q_at + (4 : Int32))) (ty := .int) (C := R_FR) (T := T_FR) (N := 10) hx hb hts w_278 ty_FR ty_FR_ok nm_FR hown hK hP hD hS 0 rfl rfl 3 (by decide) (hts _ w_287) (fun _ h9 => h9) rfl (by decide +kernel) rfl rfl (Nat.le_of_ble_eq_true rfl) d_FR_readBlock_31 (fun H locs hP hD hS => ?_)
    have hP : va_P (dC, dI) vwCl (wd_FR_readBlock fr br g ga hs hsa t ta cB cI cJ (q_at + (4 : Int32)) q_most q_flags q_great q_sizeAt q_start q_place b_at b_end b_start b_most b_dist b_place gn gf hsn hsf tn tf) H := hP
    have hD : va_D A (wd_FR_readBlock fr br g ga hs hsa t ta cB cI cJ (q_at + (4 : Int32)) q_most q_flags q_great q_sizeAt q_start q_place b_at b_end b_start b_most b_dist b_place gn gf hsn hsf tn tf) := hD
    refine lv_aload_n hx hb d_FR_readBlock_34 rfl (lv_at hl 1 rfl) ?_
    refine lv_bipush (v := 16) hx hb d_FR_readBlock_35 (by decide) ?_
    obtain ⟨r37, hc37, hf⟩ := bd1_some hf
    refine s_Vi (As := [.int (16 : Int32)]) (rest := []) (wr := [(br, .inr (5, [.ref g, .ref hs, .ref t, .int b_at, .int b_end, .int b_start, .int b_most, .int b_dist, .int b_place])), (g, .inr (1, [.ref ga, .int gn])), (ga, .inl (cB, 8000, .inl gf)), (hs, .inr (1, [.ref hsa, .int hsn])), (hsa, .inl (cB, 8000, .inl hsf)), (t, .inr (1, [.ref ta, .int tn])), (ta, .inl (cB, 8000, .inl tf))]) (ws' := wd_FR_readBlock fr br g ga hs hsa t ta cB cI cJ (q_at + (4 : Int32)) q_most q_flags q_great q_sizeAt q_start q_place b_at b_end b_start b_most b_dist b_place gn gf hsn hsf tn tf) C.call (c_FR_has l dC dI cB cI cJ fr g t br  (q_at + (4 : Int32)) q_most q_flags q_great q_sizeAt q_start q_place (16 : Int32) hc37) (cwV 1 hts (gd_V w_304 w_305 w_306 w_285 w_307) rfl rfl rfl ⟨rfl, hd_FR_has⟩ ⟨Nat.le_of_ble_eq_true rfl, Nat.le_of_ble_eq_true rfl⟩) rfl hl.1 rfl (Nat.le_of_ble_eq_true rfl) d_FR_readBlock_37 ⟨Nat.le_of_ble_eq_true rfl, Nat.le_of_ble_eq_true rfl⟩ hZ hK hP hD hS hA 6 0 rfl rfl [0] [1, 2, 3, 4, 5, 6, 7] [7, 0, 1, 2, 3, 4, 5, 6] rfl rfl rfl rfl (by decide) rfl rfl (fun H locs hP hD hS => ?_)
    refine lv_if_eq (tgt := 47) hx hb d_FR_readBlock_40 (by decide) (fun c_40 => ?_) (fun c_40 => ?_)
    · have hf := br_pos c_40 hf
      refine lv_iconst (v := 0) hx hb d_FR_readBlock_47 (by decide) ?_
      exact k_FR_readBlock_48 C hK hA x1 (x1 &&& (2147483647 : Int32)) (0 : Int32) (q_at + (4 : Int32)) q_most q_flags q_great q_sizeAt q_start q_place b_at b_end b_start b_most b_dist b_place gn gf hsn hsf tn tf  hf hP hD hS (lv_sub hl [1, 2, 0] rfl)
    · have hf := br_neg c_40 hf
      refine lv_iconst (v := 4) hx hb d_FR_readBlock_43 (by decide) ?_
      refine lv_goto (tgt := 48) hx hb d_FR_readBlock_44 (by decide) ?_
      exact k_FR_readBlock_48 C hK hA x1 (x1 &&& (2147483647 : Int32)) (4 : Int32) (q_at + (4 : Int32)) q_most q_flags q_great q_sizeAt q_start q_place b_at b_end b_start b_most b_dist b_place gn gf hsn hsf tn tf  hf hP hD hS (lv_sub hl [1, 2, 0] rfl)
  · have hf := br_neg c_10 hf
    refine lv_aload_n hx hb d_FR_readBlock_13 rfl (lv_at hl 1 rfl) ?_
    refine lv_bipush (v := 7) hx hb d_FR_readBlock_14 (by decide) ?_
    refine lv_aload_n hx hb d_FR_readBlock_16 rfl (lv_at hl 1 rfl) ?_
    refine va_get (D := (dC, dI)) (ci := 6) (v := .int q_at) (C := R_FR) (T := T_FR) (N := 10) hx hb hts w_278 hown hK hP 0 rfl rfl 3 (by decide) (hts _ w_287) (fun _ h9 => h9) rfl d_FR_readBlock_17 ?_
    obtain ⟨r20, q_place_20, hc20, hf⟩ := bd2_some hf
    refine s_Vi (As := [.int (7 : Int32), .int q_at]) (rest := []) (wr := [(br, .inr (5, [.ref g, .ref hs, .ref t, .int b_at, .int b_end, .int b_start, .int b_most, .int b_dist, .int b_place])), (g, .inr (1, [.ref ga, .int gn])), (ga, .inl (cB, 8000, .inl gf)), (hs, .inr (1, [.ref hsa, .int hsn])), (hsa, .inl (cB, 8000, .inl hsf)), (t, .inr (1, [.ref ta, .int tn])), (ta, .inl (cB, 8000, .inl tf))]) (ws' := wd_FR_readBlock fr br g ga hs hsa t ta cB cI cJ q_at q_most q_flags q_great q_sizeAt q_start q_place_20 b_at b_end b_start b_most b_dist b_place gn gf hsn hsf tn tf) C.call (c_FR_fault l dC dI cB cI cJ fr g t br  q_at q_most q_flags q_great q_sizeAt q_start q_place (7 : Int32) q_at hc20) (cwV 2 hts (gd_V w_282 w_283 w_284 w_285 w_286) rfl rfl rfl ⟨rfl, hd_FR_fault⟩ ⟨Nat.le_of_ble_eq_true rfl, Nat.le_of_ble_eq_true rfl⟩) rfl hl.1 rfl (Nat.le_of_ble_eq_true rfl) d_FR_readBlock_20 ⟨Nat.le_of_ble_eq_true rfl, Nat.le_of_ble_eq_true rfl⟩ hZ hK hP hD hS hA 6 0 rfl rfl [0] [1, 2, 3, 4, 5, 6, 7] [7, 0, 1, 2, 3, 4, 5, 6] rfl rfl rfl rfl (by decide) rfl rfl (fun H locs hP hD hS => ?_)
    cases hf
    exact s_iret hx hb hr hlocks hP hK hD hS d_FR_readBlock_23
end
noncomputable abbrev f_FR_readBlock (N : Nat) (x1 : Int32) (q_at : Int32) (q_most : Int32) (q_flags : Int32) (q_great : Int32) (q_start : Int32) (q_place : Int32) (b_at : Int32) (b_end : Int32) (b_start : Int32) (b_most : Int32) (b_dist : Int32) (b_place : Int32) (gn : Int32) (gf : Nat → Int32) (hsn : Int32) (hsf : Nat → Int32) (tn : Int32) (tf : Nat → Int32) : Option (Int32 × Int32 × Int32 × Int32 × Int32 × Int32 × Int32 × Int32 × Int32 × Int32 × (Nat → Int32)) := j_FR_readBlock_0 N x1 q_at q_most q_flags q_great q_start q_place b_at b_end b_start b_most b_dist b_place gn gf hsn hsf tn tf
set_option maxRecDepth 100000 in
theorem c_FR_readBlock {N : Nat} (l : Launch) (dC : Nat → ClassId) (dI : Nat → Nat → Nat) (cB cI cJ : ClassId) (fr br g ga hs hsa t ta : Nat) (q_at : Int32) (q_most : Int32) (q_flags : Int32) (q_great : Int32) (q_sizeAt : Int32) (q_start : Int32) (q_place : Int32) (b_at : Int32) (b_end : Int32) (b_start : Int32) (b_most : Int32) (b_dist : Int32) (b_place : Int32) (gn : Int32) (gf : Nat → Int32) (hsn : Int32) (hsf : Nat → Int32) (tn : Int32) (tf : Nat → Int32) (x1 : Int32) {r_z : Int32} {q_at_z : Int32} {q_place_z : Int32} {b_at_z : Int32} {b_end_z : Int32} {b_start_z : Int32} {b_most_z : Int32} {b_dist_z : Int32} {b_place_z : Int32} {tn_z : Int32} {tf_z : Nat → Int32} (hf : f_FR_readBlock N x1 q_at q_most q_flags q_great q_start q_place b_at b_end b_start b_most b_dist b_place gn gf hsn hsf tn tf = some (r_z, q_at_z, q_place_z, b_at_z, b_end_z, b_start_z, b_most_z, b_dist_z, b_place_z, tn_z, tf_z)) : MetI l y_FR_readBlock ws_FR_readBlock rm_FR_readBlock (dC, dI) vwCl [(cB, .byte), (cI, .int), (cJ, .long)] [.ref fr, .int x1] (wd_FR_readBlock fr br g ga hs hsa t ta cB cI cJ q_at q_most q_flags q_great q_sizeAt q_start q_place b_at b_end b_start b_most b_dist b_place gn gf hsn hsf tn tf) r_z (wd_FR_readBlock fr br g ga hs hsa t ta cB cI cJ q_at_z q_most q_flags q_great q_sizeAt q_start q_place_z b_at_z b_end_z b_start_z b_most_z b_dist_z b_place_z gn gf hsn hsf tn_z tf_z) 0 0 :=
  s_ofi (bytes := cd_FR_readBlock) (maxL := 7) (ret := (some .int)) (by decide) rfl (Nat.le_of_ble_eq_true rfl) (fun p e s m below meth c A ls C hK hA hP hD hS hl => k_FR_readBlock_0 C hK hA x1 q_at q_most q_flags q_great q_sizeAt q_start q_place b_at b_end b_start b_most b_dist b_place gn gf hsn hsf tn tf hf hP hD hS (lv_sub hl [0, 1] rfl))
