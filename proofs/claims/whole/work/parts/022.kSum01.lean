abbrev wd_Sum_lane (cB cI cJ : ClassId) : va_W := []
abbrev rm_Sum_lane : Room := { frames := 1, cells := 0, slots := 0, locals := 21 }
section
variable {p : Program} {l : Launch} {e : Env} {s : State} {m : MethodId} {args : Array Value} {below : List Frame} {meth : Method} {c : Code} {dC : Nat → ClassId} {dI : Nat → Nat → Nat} {A : Nat → Prop} {cB cI cJ : ClassId} {H : Heap} {locs : List Loc} {ls : Array Slot} {N : Nat} 
noncomputable def j_Sum_lane_0 (x0 : Int32) (x1 : Int32)  : Option (Int32) :=
  bd1 (f_Sum_rotated (x0 + (x1 * (-2048144777 : Int32))) (13 : Int32)) (fun r8 => (some (r8 * (-1640531535 : Int32)) : Option (Int32)))
set_option maxHeartbeats 4000000 in
set_option maxRecDepth 100000 in
theorem k_Sum_lane_0 {r_z : Int32} (C : Fx p s m args meth c cd_Sum_lane 2 R_Sum lw_g (some .int)) (hK : va_K (dC, dI) vwCl [(cB, .byte), (cI, .int), (cJ, .long)] s) (hA : ∀ q, s.heap.size ≤ q → A q) (x0 : Int32) (x1 : Int32)  (hf : j_Sum_lane_0 x0 x1  = some r_z) (hP : va_P (dC, dI) vwCl (wd_Sum_lane cB cI cJ) H) (hD : va_D A (wd_Sum_lane cB cI cJ)) (hS : va_S A s.heap H locs) (hl : lv_has ls 2 [(0, .int x0), (1, .int x1)]) : W p l e rm_Sum_lane s m args below meth c H locs 0 0 (MQ below (sQi (dC, dI) vwCl [(cB, .byte), (cI, .int), (cJ, .long)] A r_z (wd_Sum_lane cB cI cJ)) args s 0 0 A) (F0 m 0 ls []) := by
  obtain ⟨hx, hb, hml, hown, hts, hr, hlocks, hZ⟩ := id C
  unfold j_Sum_lane_0 at hf
  refine lv_iload_n hx hb d_Sum_lane_0 rfl (lv_at hl 0 rfl) ?_
  refine lv_iload_n hx hb d_Sum_lane_1 rfl (lv_at hl 1 rfl) ?_
  refine lv_ldc (v := -2048144777) hx hb hown (hts _ w_138) d_Sum_lane_2 ?_
  refine lv_imul hx hb d_Sum_lane_4 ?_
  refine lv_iadd hx hb d_Sum_lane_5 ?_
  refine lv_bipush (v := 13) hx hb d_Sum_lane_6 (by decide) ?_
  obtain ⟨r8, hc8, hf⟩ := bd1_some hf
  refine s_Si (As := [.int (x0 + (x1 * (-2048144777 : Int32))), .int (13 : Int32)]) (rest := []) (wr := []) (ws' := wd_Sum_lane cB cI cJ) C.call (c_Sum_rotated l dC dI cB cI cJ    (x0 + (x1 * (-2048144777 : Int32))) (13 : Int32) hc8) (va_cwS 2 hts (gd_S w_139 w_140 w_141 w_142) rfl rfl rfl hd_Sum_rotated ⟨Nat.le_of_ble_eq_true rfl, Nat.le_of_ble_eq_true rfl⟩) rfl hl.1 rfl (Nat.le_of_ble_eq_true rfl) d_Sum_lane_8 ⟨Nat.le_of_ble_eq_true rfl, Nat.le_of_ble_eq_true rfl⟩ hZ hK hP hD hS hA [] [] [] rfl rfl rfl rfl (by decide) rfl rfl (fun H locs hP hD hS => ?_)
  refine lv_ldc (v := -1640531535) hx hb hown (hts _ w_143) d_Sum_lane_11 ?_
  refine lv_imul hx hb d_Sum_lane_13 ?_
  cases hf
  exact s_iret hx hb hr hlocks hP hK hD hS d_Sum_lane_14
end
noncomputable abbrev f_Sum_lane (x0 : Int32) (x1 : Int32) : Option (Int32) := j_Sum_lane_0 x0 x1
set_option maxRecDepth 100000 in
theorem c_Sum_lane (l : Launch) (dC : Nat → ClassId) (dI : Nat → Nat → Nat) (cB cI cJ : ClassId)   (x0 : Int32) (x1 : Int32) {r_z : Int32} (hf : f_Sum_lane x0 x1 = some r_z) : MetI l y_Sum_lane ws_Sum_lane rm_Sum_lane (dC, dI) vwCl [(cB, .byte), (cI, .int), (cJ, .long)] [.int x0, .int x1] (wd_Sum_lane cB cI cJ) r_z (wd_Sum_lane cB cI cJ) 0 0 :=
  s_ofi (bytes := cd_Sum_lane) (maxL := 2) (ret := (some .int)) (by decide) rfl (Nat.le_of_ble_eq_true rfl) (fun p e s m below meth c A ls C hK hA hP hD hS hl => k_Sum_lane_0 C hK hA x0 x1 hf hP hD hS (lv_sub hl [0, 1] rfl))
