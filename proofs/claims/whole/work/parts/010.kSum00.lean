abbrev wd_Sum_rotated (cB cI cJ : ClassId) : va_W := []
abbrev rm_Sum_rotated : Room := { frames := 0, cells := 0, slots := 0, locals := 0 }
section
variable {p : Program} {l : Launch} {e : Env} {s : State} {m : MethodId} {args : Array Value} {below : List Frame} {meth : Method} {c : Code} {dC : Nat → ClassId} {dI : Nat → Nat → Nat} {A : Nat → Prop} {cB cI cJ : ClassId} {H : Heap} {locs : List Loc} {ls : Array Slot} {N : Nat} 
noncomputable def j_Sum_rotated_0 (x0 : Int32) (x1 : Int32)  : Option (Int32) :=
  (some ((x0 <<< (x1 &&& 31)) ||| (us32 x0 ((32 : Int32) - x1))) : Option (Int32))
set_option maxHeartbeats 4000000 in
set_option maxRecDepth 100000 in
theorem k_Sum_rotated_0 {r_z : Int32} (C : Fx p s m args meth c cd_Sum_rotated 2 R_Sum lw_g (some .int)) (hK : va_K (dC, dI) vwCl [(cB, .byte), (cI, .int), (cJ, .long)] s) (hA : ∀ q, s.heap.size ≤ q → A q) (x0 : Int32) (x1 : Int32)  (hf : j_Sum_rotated_0 x0 x1  = some r_z) (hP : va_P (dC, dI) vwCl (wd_Sum_rotated cB cI cJ) H) (hD : va_D A (wd_Sum_rotated cB cI cJ)) (hS : va_S A s.heap H locs) (hl : lv_has ls 2 [(0, .int x0), (1, .int x1)]) : W p l e rm_Sum_rotated s m args below meth c H locs 0 0 (MQ below (sQi (dC, dI) vwCl [(cB, .byte), (cI, .int), (cJ, .long)] A r_z (wd_Sum_rotated cB cI cJ)) args s 0 0 A) (F0 m 0 ls []) := by
  obtain ⟨hx, hb, hml, hown, hts, hr, hlocks, hZ⟩ := id C
  unfold j_Sum_rotated_0 at hf
  refine lv_iload_n hx hb d_Sum_rotated_0 rfl (lv_at hl 0 rfl) ?_
  refine lv_iload_n hx hb d_Sum_rotated_1 rfl (lv_at hl 1 rfl) ?_
  refine lv_ishl hx hb d_Sum_rotated_2 ?_
  refine lv_iload_n hx hb d_Sum_rotated_3 rfl (lv_at hl 0 rfl) ?_
  refine lv_bipush (v := 32) hx hb d_Sum_rotated_4 (by decide) ?_
  refine lv_iload_n hx hb d_Sum_rotated_6 rfl (lv_at hl 1 rfl) ?_
  refine lv_isub hx hb d_Sum_rotated_7 ?_
  refine lv_iushr (v := (us32 x0 ((32 : Int32) - x1))) hx hb d_Sum_rotated_8 rfl ?_
  refine lv_ior hx hb d_Sum_rotated_9 ?_
  cases hf
  exact s_iret hx hb hr hlocks hP hK hD hS d_Sum_rotated_10
end
noncomputable abbrev f_Sum_rotated (x0 : Int32) (x1 : Int32) : Option (Int32) := j_Sum_rotated_0 x0 x1
set_option maxRecDepth 100000 in
theorem c_Sum_rotated (l : Launch) (dC : Nat → ClassId) (dI : Nat → Nat → Nat) (cB cI cJ : ClassId)   (x0 : Int32) (x1 : Int32) {r_z : Int32} (hf : f_Sum_rotated x0 x1 = some r_z) : MetI l y_Sum_rotated ws_Sum_rotated rm_Sum_rotated (dC, dI) vwCl [(cB, .byte), (cI, .int), (cJ, .long)] [.int x0, .int x1] (wd_Sum_rotated cB cI cJ) r_z (wd_Sum_rotated cB cI cJ) 0 0 :=
  s_ofi (bytes := cd_Sum_rotated) (maxL := 2) (ret := (some .int)) (by decide) rfl (Nat.le_of_ble_eq_true rfl) (fun p e s m below meth c A ls C hK hA hP hD hS hl => k_Sum_rotated_0 C hK hA x0 x1 hf hP hD hS (lv_sub hl [0, 1] rfl))

abbrev wd_Sum_lane (cB cI cJ : ClassId) : va_W := []
abbrev rm_Sum_lane : Room := { frames := 1, cells := 0, slots := 0, locals := 21 }
section
variable {p : Program} {l : Launch} {e : Env} {s : State} {m : MethodId} {args : Array Value} {below : List Frame} {meth : Method} {c : Code} {dC : Nat → ClassId} {dI : Nat → Nat → Nat} {A : Nat → Prop} {cB cI cJ : ClassId} {H : Heap} {locs : List Loc} {ls : Array Slot} {N : Nat} 
noncomputable def j_Sum_lane_0 (x0 : Int32) (x1 : Int32)  : Option (Int32) :=
  bd1 (f_Sum_rotated (x0 + (x1 * (-2048144777 : Int32))) (13 : Int32)) (fun r8 => (some (r8 * (-1640531535 : Int32)) : Option (Int32)))
set_option maxHeartbeats 4000000 in
set_option maxRecDepth 100000 in
theorem k_Sum_lane_0 {r_z : Int32} (C : Fx p s m args meth c cd_Sum_lane 2 R_Sum lw_g (some .int)) (hK : va_K (dC, dI) vwCl [(cB, .byte), (cI, .int), (cJ, .long)] s) (hA : ∀ q, s.heap.size ≤ q → A q) (x0 : Int32) (x1 : Int32)  (hf : j_Sum_lane_0 x0 x1  = some r_z) (hP : va_P (dC, dI) vwCl (wd_Sum_lane cB cI cJ) H) (hD : va_D A (wd_Sum_lane cB cI cJ)) (hS : va_S A s.heap H locs) (hl : lv_has ls 2 [(0, .int x0), (1, .int x1)]) : W p l e rm_Sum_lane s m args below meth c H locs 0 0 (MQ below (sQi (dC, dI) vwCl [(cB, .byte), (cI, .int), (cJ, .long)] A r_z (wd_Sum_lane cB cI cJ)) args s 0 0 A) (F0 m 0 ls []) := by
  obtain ⟨hx, hb, hml, hown, hts, hr, hlocks, hZ⟩ := id C
  unfold j_Sum_lane_0 at hf
  refine lv_iload_n hx hb d_Sum_lane_0 rfl (lv_at hl 0 rfl) ?_
  refine lv_iload_n hx hb d_Sum_lane_1 rfl (lv_at hl 1 rfl) ?_
  refine lv_ldc (v := -2048144777) hx hb hown (hts _ w_146) d_Sum_lane_2 ?_
  refine lv_imul hx hb d_Sum_lane_4 ?_
  refine lv_iadd hx hb d_Sum_lane_5 ?_
  refine lv_bipush (v := 13) hx hb d_Sum_lane_6 (by decide) ?_
  obtain ⟨r8, hc8, hf⟩ := bd1_some hf
  refine s_Si (As := [.int (x0 + (x1 * (-2048144777 : Int32))), .int (13 : Int32)]) (rest := []) (wr := []) (ws' := wd_Sum_lane cB cI cJ) C.call (c_Sum_rotated l dC dI cB cI cJ    (x0 + (x1 * (-2048144777 : Int32))) (13 : Int32) hc8) (va_cwS 2 hts (gd_S w_147 w_148 w_149 w_150) rfl rfl rfl hd_Sum_rotated ⟨Nat.le_of_ble_eq_true rfl, Nat.le_of_ble_eq_true rfl⟩) rfl hl.1 rfl (Nat.le_of_ble_eq_true rfl) d_Sum_lane_8 ⟨Nat.le_of_ble_eq_true rfl, Nat.le_of_ble_eq_true rfl⟩ hZ hK hP hD hS hA [] [] [] rfl rfl rfl rfl (by decide) rfl rfl (fun H locs hP hD hS => ?_)
  refine lv_ldc (v := -1640531535) hx hb hown (hts _ w_151) d_Sum_lane_11 ?_
  refine lv_imul hx hb d_Sum_lane_13 ?_
  cases hf
  exact s_iret hx hb hr hlocks hP hK hD hS d_Sum_lane_14
end
noncomputable abbrev f_Sum_lane (x0 : Int32) (x1 : Int32) : Option (Int32) := j_Sum_lane_0 x0 x1
set_option maxRecDepth 100000 in
theorem c_Sum_lane (l : Launch) (dC : Nat → ClassId) (dI : Nat → Nat → Nat) (cB cI cJ : ClassId)   (x0 : Int32) (x1 : Int32) {r_z : Int32} (hf : f_Sum_lane x0 x1 = some r_z) : MetI l y_Sum_lane ws_Sum_lane rm_Sum_lane (dC, dI) vwCl [(cB, .byte), (cI, .int), (cJ, .long)] [.int x0, .int x1] (wd_Sum_lane cB cI cJ) r_z (wd_Sum_lane cB cI cJ) 0 0 :=
  s_ofi (bytes := cd_Sum_lane) (maxL := 2) (ret := (some .int)) (by decide) rfl (Nat.le_of_ble_eq_true rfl) (fun p e s m below meth c A ls C hK hA hP hD hS hl => k_Sum_lane_0 C hK hA x0 x1 hf hP hD hS (lv_sub hl [0, 1] rfl))

abbrev wd_Sum_ofLanes (r ra : Nat) (cB cI cJ : ClassId) (rL : Nat) (rn : Int32) (rf : Nat → Int32) : va_W := [(r, .inr (1, [.ref ra, .int rn])), (ra, .inl (cB, rL, .inl rf))]
abbrev rm_Sum_ofLanes : Room := { frames := 2, cells := 0, slots := 0, locals := 42 }
section
variable {p : Program} {l : Launch} {e : Env} {s : State} {m : MethodId} {args : Array Value} {below : List Frame} {meth : Method} {c : Code} {dC : Nat → ClassId} {dI : Nat → Nat → Nat} {A : Nat → Prop} {cB cI cJ : ClassId} {H : Heap} {locs : List Loc} {ls : Array Slot} {N : Nat} {r ra rL : Nat}
noncomputable def b_Sum_ofLanes_17 (rL : Nat) (x2 : Int32) (rn : Int32) (rf : Nat → Int32)  (kh17 : Int32 → Int32 → Int32 → Int32 → Int32 → Option (Int32)) (x3 : Int32) (x4 : Int32) (x5 : Int32) (x6 : Int32) (x7 : Int32) : Option (Int32) :=
  (if x2 ≤ x7 then bd1 (f_Sum_rotated x3 (1 : Int32)) (fun r89 => bd1 (f_Sum_rotated x4 (7 : Int32)) (fun r96 => bd1 (f_Sum_rotated x5 (12 : Int32)) (fun r104 => bd1 (f_Sum_rotated x6 (18 : Int32)) (fun r112 => (some (((r89 + r96) + r104) + r112) : Option (Int32)))))) else bd1 (f_Row_word rL x7 rn rf) (fun r27 => bd1 (f_Sum_lane x3 r27) (fun r30 => bd1 (f_Row_word rL (x7 + (4 : Int32)) rn rf) (fun r41 => bd1 (f_Sum_lane x4 r41) (fun r44 => bd1 (f_Row_word rL (x7 + (8 : Int32)) rn rf) (fun r57 => bd1 (f_Sum_lane x5 r57) (fun r60 => bd1 (f_Row_word rL (x7 + (12 : Int32)) rn rf) (fun r73 => bd1 (f_Sum_lane x6 r73) (fun r76 => (kh17 r30 r44 r60 r76 (x7 + 16)))))))))))
set_option maxHeartbeats 4000000 in
set_option maxRecDepth 100000 in
theorem k_Sum_ofLanes_17 {r_z : Int32} (C : Fx p s m args meth c cd_Sum_ofLanes 8 R_Sum lw_g (some .int)) (hK : va_K (dC, dI) vwCl [(cB, .byte), (cI, .int), (cJ, .long)] s) (hA : ∀ q, s.heap.size ≤ q → A q) (x2 : Int32) (rn : Int32) (rf : Nat → Int32)  : ∀ (n : Nat) (x3 : Int32) (x4 : Int32) (x5 : Int32) (x6 : Int32) (x7 : Int32), loop5 (b_Sum_ofLanes_17 rL x2 rn rf ) n x3 x4 x5 x6 x7 = some r_z → ∀ (H : Heap) (locs : List Loc), va_P (dC, dI) vwCl (wd_Sum_ofLanes r ra cB cI cJ rL rn rf) H → va_D A (wd_Sum_ofLanes r ra cB cI cJ rL rn rf) → va_S A s.heap H locs → ∀ (ls : Array Slot), lv_has ls 8 [(0, .ref r), (2, .int x2), (3, .int x3), (4, .int x4), (5, .int x5), (6, .int x6), (7, .int x7)] → W p l e rm_Sum_ofLanes s m args below meth c H locs 0 0 (MQ below (sQi (dC, dI) vwCl [(cB, .byte), (cI, .int), (cJ, .long)] A r_z (wd_Sum_ofLanes r ra cB cI cJ rL rn rf)) args s 0 0 A) (F0 m 17 ls []) := by
  obtain ⟨hx, hb, hml, hown, hts, hr, hlocks, hZ⟩ := id C
  intro n
  induction n with
  | zero => intro x3 x4 x5 x6 x7 hf; cases hf
  | succ n ih17 =>
    intro x3 x4 x5 x6 x7 hf H locs hP hD hS ls hl
    have hf : b_Sum_ofLanes_17 rL x2 rn rf  (loop5 (b_Sum_ofLanes_17 rL x2 rn rf ) n) x3 x4 x5 x6 x7 = some r_z := hf
    generalize loop5 (b_Sum_ofLanes_17 rL x2 rn rf ) n = kh17 at hf ih17
    unfold b_Sum_ofLanes_17 at hf
    refine lv_iload hx hb d_Sum_ofLanes_17 (lv_at hl 6 rfl) ?_
    refine lv_iload_n hx hb d_Sum_ofLanes_19 rfl (lv_at hl 1 rfl) ?_
    refine lv_icmp_ge (tgt := 87) hx hb d_Sum_ofLanes_20 (by decide) (fun c_20 => ?_) (fun c_20 => ?_)
    · have hf := br_pos c_20 hf
      refine lv_iload_n hx hb d_Sum_ofLanes_87 rfl (lv_at hl 2 rfl) ?_
      refine lv_iconst (v := 1) hx hb d_Sum_ofLanes_88 (by decide) ?_
      obtain ⟨r89, hc89, hf⟩ := bd1_some hf
      refine s_Si (As := [.int x3, .int (1 : Int32)]) (rest := []) (wr := [(r, .inr (1, [.ref ra, .int rn])), (ra, .inl (cB, rL, .inl rf))]) (ws' := wd_Sum_ofLanes r ra cB cI cJ rL rn rf) C.call (c_Sum_rotated l dC dI cB cI cJ    x3 (1 : Int32) hc89) (va_cwS 2 hts (gd_S w_147 w_148 w_149 w_150) rfl rfl rfl hd_Sum_rotated ⟨Nat.le_of_ble_eq_true rfl, Nat.le_of_ble_eq_true rfl⟩) rfl hl.1 rfl (Nat.le_of_ble_eq_true rfl) d_Sum_ofLanes_89 ⟨Nat.le_of_ble_eq_true rfl, Nat.le_of_ble_eq_true rfl⟩ hZ hK hP hD hS hA [] [0, 1] [0, 1] rfl rfl rfl rfl (by decide) rfl rfl (fun H locs hP hD hS => ?_)
      refine lv_iload hx hb d_Sum_ofLanes_92 (lv_at hl 3 rfl) ?_
      refine lv_bipush (v := 7) hx hb d_Sum_ofLanes_94 (by decide) ?_
      obtain ⟨r96, hc96, hf⟩ := bd1_some hf
      refine s_Si (As := [.int x4, .int (7 : Int32)]) (rest := [.int r89]) (wr := [(r, .inr (1, [.ref ra, .int rn])), (ra, .inl (cB, rL, .inl rf))]) (ws' := wd_Sum_ofLanes r ra cB cI cJ rL rn rf) C.call (c_Sum_rotated l dC dI cB cI cJ    x4 (7 : Int32) hc96) (va_cwS 2 hts (gd_S w_147 w_148 w_149 w_150) rfl rfl rfl hd_Sum_rotated ⟨Nat.le_of_ble_eq_true rfl, Nat.le_of_ble_eq_true rfl⟩) rfl hl.1 rfl (Nat.le_of_ble_eq_true rfl) d_Sum_ofLanes_96 ⟨Nat.le_of_ble_eq_true rfl, Nat.le_of_ble_eq_true rfl⟩ hZ hK hP hD hS hA [] [0, 1] [0, 1] rfl rfl rfl rfl (by decide) rfl rfl (fun H locs hP hD hS => ?_)
      refine lv_iadd hx hb d_Sum_ofLanes_99 ?_
      refine lv_iload hx hb d_Sum_ofLanes_100 (lv_at hl 4 rfl) ?_
      refine lv_bipush (v := 12) hx hb d_Sum_ofLanes_102 (by decide) ?_
      obtain ⟨r104, hc104, hf⟩ := bd1_some hf
      refine s_Si (As := [.int x5, .int (12 : Int32)]) (rest := [.int (r89 + r96)]) (wr := [(r, .inr (1, [.ref ra, .int rn])), (ra, .inl (cB, rL, .inl rf))]) (ws' := wd_Sum_ofLanes r ra cB cI cJ rL rn rf) C.call (c_Sum_rotated l dC dI cB cI cJ    x5 (12 : Int32) hc104) (va_cwS 2 hts (gd_S w_147 w_148 w_149 w_150) rfl rfl rfl hd_Sum_rotated ⟨Nat.le_of_ble_eq_true rfl, Nat.le_of_ble_eq_true rfl⟩) rfl hl.1 rfl (Nat.le_of_ble_eq_true rfl) d_Sum_ofLanes_104 ⟨Nat.le_of_ble_eq_true rfl, Nat.le_of_ble_eq_true rfl⟩ hZ hK hP hD hS hA [] [0, 1] [0, 1] rfl rfl rfl rfl (by decide) rfl rfl (fun H locs hP hD hS => ?_)
      refine lv_iadd hx hb d_Sum_ofLanes_107 ?_
      refine lv_iload hx hb d_Sum_ofLanes_108 (lv_at hl 5 rfl) ?_
      refine lv_bipush (v := 18) hx hb d_Sum_ofLanes_110 (by decide) ?_
      obtain ⟨r112, hc112, hf⟩ := bd1_some hf
      refine s_Si (As := [.int x6, .int (18 : Int32)]) (rest := [.int ((r89 + r96) + r104)]) (wr := [(r, .inr (1, [.ref ra, .int rn])), (ra, .inl (cB, rL, .inl rf))]) (ws' := wd_Sum_ofLanes r ra cB cI cJ rL rn rf) C.call (c_Sum_rotated l dC dI cB cI cJ    x6 (18 : Int32) hc112) (va_cwS 2 hts (gd_S w_147 w_148 w_149 w_150) rfl rfl rfl hd_Sum_rotated ⟨Nat.le_of_ble_eq_true rfl, Nat.le_of_ble_eq_true rfl⟩) rfl hl.1 rfl (Nat.le_of_ble_eq_true rfl) d_Sum_ofLanes_112 ⟨Nat.le_of_ble_eq_true rfl, Nat.le_of_ble_eq_true rfl⟩ hZ hK hP hD hS hA [] [0, 1] [0, 1] rfl rfl rfl rfl (by decide) rfl rfl (fun H locs hP hD hS => ?_)
      refine lv_iadd hx hb d_Sum_ofLanes_115 ?_
      cases hf
      exact s_iret hx hb hr hlocks hP hK hD hS d_Sum_ofLanes_116
    · have hf := br_neg c_20 hf
      refine lv_iload_n hx hb d_Sum_ofLanes_23 rfl (lv_at hl 2 rfl) ?_
      refine lv_aload_n hx hb d_Sum_ofLanes_24 rfl (lv_at hl 0 rfl) ?_
      refine lv_iload hx hb d_Sum_ofLanes_25 (lv_at hl 6 rfl) ?_
      obtain ⟨r27, hc27, hf⟩ := bd1_some hf
      refine s_Vi (As := [.int x7]) (rest := [.int x3]) (wr := []) (ws' := wd_Sum_ofLanes r ra cB cI cJ rL rn rf) C.call (c_Row_word l dC dI cB cI cJ r ra rL rn rf x7 hc27) (cwV 1 hts (gd_V w_154 w_59 w_60 w_12 w_61) rfl rfl rfl ⟨rfl, hd_Row_word⟩ ⟨Nat.le_of_ble_eq_true rfl, Nat.le_of_ble_eq_true rfl⟩) rfl hl.1 rfl (Nat.le_of_ble_eq_true rfl) d_Sum_ofLanes_27 ⟨Nat.le_of_ble_eq_true rfl, Nat.le_of_ble_eq_true rfl⟩ hZ hK hP hD hS hA 1 0 rfl rfl [0, 1] [] [0, 1] rfl rfl rfl rfl (by decide) rfl rfl (fun H locs hP hD hS => ?_)
      obtain ⟨r30, hc30, hf⟩ := bd1_some hf
      refine s_Si (As := [.int x3, .int r27]) (rest := []) (wr := [(r, .inr (1, [.ref ra, .int rn])), (ra, .inl (cB, rL, .inl rf))]) (ws' := wd_Sum_ofLanes r ra cB cI cJ rL rn rf) C.call (c_Sum_lane l dC dI cB cI cJ    x3 r27 hc30) (va_cwS 2 hts (gd_S w_155 w_156 w_149 w_157) rfl rfl rfl hd_Sum_lane ⟨Nat.le_of_ble_eq_true rfl, Nat.le_of_ble_eq_true rfl⟩) rfl hl.1 rfl (Nat.le_of_ble_eq_true rfl) d_Sum_ofLanes_30 ⟨Nat.le_of_ble_eq_true rfl, Nat.le_of_ble_eq_true rfl⟩ hZ hK hP hD hS hA [] [0, 1] [0, 1] rfl rfl rfl rfl (by decide) rfl rfl (fun H locs hP hD hS => ?_)
      refine lv_istore_n (lv' := [(3, .int r30), (0, .ref r), (2, .int x2), (4, .int x4), (5, .int x5), (6, .int x6), (7, .int x7)]) hx hb d_Sum_ofLanes_33 rfl hl (by decide) rfl (fun ls hl => ?_)
      refine lv_iload hx hb d_Sum_ofLanes_34 (lv_at hl 3 rfl) ?_
      refine lv_aload_n hx hb d_Sum_ofLanes_36 rfl (lv_at hl 1 rfl) ?_
      refine lv_iload hx hb d_Sum_ofLanes_37 (lv_at hl 6 rfl) ?_
      refine lv_iconst (v := 4) hx hb d_Sum_ofLanes_39 (by decide) ?_
      refine lv_iadd hx hb d_Sum_ofLanes_40 ?_
      obtain ⟨r41, hc41, hf⟩ := bd1_some hf
      refine s_Vi (As := [.int (x7 + (4 : Int32))]) (rest := [.int x4]) (wr := []) (ws' := wd_Sum_ofLanes r ra cB cI cJ rL rn rf) C.call (c_Row_word l dC dI cB cI cJ r ra rL rn rf (x7 + (4 : Int32)) hc41) (cwV 1 hts (gd_V w_154 w_59 w_60 w_12 w_61) rfl rfl rfl ⟨rfl, hd_Row_word⟩ ⟨Nat.le_of_ble_eq_true rfl, Nat.le_of_ble_eq_true rfl⟩) rfl hl.1 rfl (Nat.le_of_ble_eq_true rfl) d_Sum_ofLanes_41 ⟨Nat.le_of_ble_eq_true rfl, Nat.le_of_ble_eq_true rfl⟩ hZ hK hP hD hS hA 1 0 rfl rfl [0, 1] [] [0, 1] rfl rfl rfl rfl (by decide) rfl rfl (fun H locs hP hD hS => ?_)
      obtain ⟨r44, hc44, hf⟩ := bd1_some hf
      refine s_Si (As := [.int x4, .int r41]) (rest := []) (wr := [(r, .inr (1, [.ref ra, .int rn])), (ra, .inl (cB, rL, .inl rf))]) (ws' := wd_Sum_ofLanes r ra cB cI cJ rL rn rf) C.call (c_Sum_lane l dC dI cB cI cJ    x4 r41 hc44) (va_cwS 2 hts (gd_S w_155 w_156 w_149 w_157) rfl rfl rfl hd_Sum_lane ⟨Nat.le_of_ble_eq_true rfl, Nat.le_of_ble_eq_true rfl⟩) rfl hl.1 rfl (Nat.le_of_ble_eq_true rfl) d_Sum_ofLanes_44 ⟨Nat.le_of_ble_eq_true rfl, Nat.le_of_ble_eq_true rfl⟩ hZ hK hP hD hS hA [] [0, 1] [0, 1] rfl rfl rfl rfl (by decide) rfl rfl (fun H locs hP hD hS => ?_)
      refine lv_istore (lv' := [(4, .int r44), (3, .int r30), (0, .ref r), (2, .int x2), (5, .int x5), (6, .int x6), (7, .int x7)]) hx hb d_Sum_ofLanes_47 hl (by decide) rfl (fun ls hl => ?_)
      refine lv_iload hx hb d_Sum_ofLanes_49 (lv_at hl 4 rfl) ?_
      refine lv_aload_n hx hb d_Sum_ofLanes_51 rfl (lv_at hl 2 rfl) ?_
      refine lv_iload hx hb d_Sum_ofLanes_52 (lv_at hl 6 rfl) ?_
      refine lv_bipush (v := 8) hx hb d_Sum_ofLanes_54 (by decide) ?_
      refine lv_iadd hx hb d_Sum_ofLanes_56 ?_
      obtain ⟨r57, hc57, hf⟩ := bd1_some hf
      refine s_Vi (As := [.int (x7 + (8 : Int32))]) (rest := [.int x5]) (wr := []) (ws' := wd_Sum_ofLanes r ra cB cI cJ rL rn rf) C.call (c_Row_word l dC dI cB cI cJ r ra rL rn rf (x7 + (8 : Int32)) hc57) (cwV 1 hts (gd_V w_154 w_59 w_60 w_12 w_61) rfl rfl rfl ⟨rfl, hd_Row_word⟩ ⟨Nat.le_of_ble_eq_true rfl, Nat.le_of_ble_eq_true rfl⟩) rfl hl.1 rfl (Nat.le_of_ble_eq_true rfl) d_Sum_ofLanes_57 ⟨Nat.le_of_ble_eq_true rfl, Nat.le_of_ble_eq_true rfl⟩ hZ hK hP hD hS hA 1 0 rfl rfl [0, 1] [] [0, 1] rfl rfl rfl rfl (by decide) rfl rfl (fun H locs hP hD hS => ?_)
      obtain ⟨r60, hc60, hf⟩ := bd1_some hf
      refine s_Si (As := [.int x5, .int r57]) (rest := []) (wr := [(r, .inr (1, [.ref ra, .int rn])), (ra, .inl (cB, rL, .inl rf))]) (ws' := wd_Sum_ofLanes r ra cB cI cJ rL rn rf) C.call (c_Sum_lane l dC dI cB cI cJ    x5 r57 hc60) (va_cwS 2 hts (gd_S w_155 w_156 w_149 w_157) rfl rfl rfl hd_Sum_lane ⟨Nat.le_of_ble_eq_true rfl, Nat.le_of_ble_eq_true rfl⟩) rfl hl.1 rfl (Nat.le_of_ble_eq_true rfl) d_Sum_ofLanes_60 ⟨Nat.le_of_ble_eq_true rfl, Nat.le_of_ble_eq_true rfl⟩ hZ hK hP hD hS hA [] [0, 1] [0, 1] rfl rfl rfl rfl (by decide) rfl rfl (fun H locs hP hD hS => ?_)
      refine lv_istore (lv' := [(5, .int r60), (4, .int r44), (3, .int r30), (0, .ref r), (2, .int x2), (6, .int x6), (7, .int x7)]) hx hb d_Sum_ofLanes_63 hl (by decide) rfl (fun ls hl => ?_)
      refine lv_iload hx hb d_Sum_ofLanes_65 (lv_at hl 5 rfl) ?_
      refine lv_aload_n hx hb d_Sum_ofLanes_67 rfl (lv_at hl 3 rfl) ?_
      refine lv_iload hx hb d_Sum_ofLanes_68 (lv_at hl 6 rfl) ?_
      refine lv_bipush (v := 12) hx hb d_Sum_ofLanes_70 (by decide) ?_
      refine lv_iadd hx hb d_Sum_ofLanes_72 ?_
      obtain ⟨r73, hc73, hf⟩ := bd1_some hf
      refine s_Vi (As := [.int (x7 + (12 : Int32))]) (rest := [.int x6]) (wr := []) (ws' := wd_Sum_ofLanes r ra cB cI cJ rL rn rf) C.call (c_Row_word l dC dI cB cI cJ r ra rL rn rf (x7 + (12 : Int32)) hc73) (cwV 1 hts (gd_V w_154 w_59 w_60 w_12 w_61) rfl rfl rfl ⟨rfl, hd_Row_word⟩ ⟨Nat.le_of_ble_eq_true rfl, Nat.le_of_ble_eq_true rfl⟩) rfl hl.1 rfl (Nat.le_of_ble_eq_true rfl) d_Sum_ofLanes_73 ⟨Nat.le_of_ble_eq_true rfl, Nat.le_of_ble_eq_true rfl⟩ hZ hK hP hD hS hA 1 0 rfl rfl [0, 1] [] [0, 1] rfl rfl rfl rfl (by decide) rfl rfl (fun H locs hP hD hS => ?_)
      obtain ⟨r76, hc76, hf⟩ := bd1_some hf
      refine s_Si (As := [.int x6, .int r73]) (rest := []) (wr := [(r, .inr (1, [.ref ra, .int rn])), (ra, .inl (cB, rL, .inl rf))]) (ws' := wd_Sum_ofLanes r ra cB cI cJ rL rn rf) C.call (c_Sum_lane l dC dI cB cI cJ    x6 r73 hc76) (va_cwS 2 hts (gd_S w_155 w_156 w_149 w_157) rfl rfl rfl hd_Sum_lane ⟨Nat.le_of_ble_eq_true rfl, Nat.le_of_ble_eq_true rfl⟩) rfl hl.1 rfl (Nat.le_of_ble_eq_true rfl) d_Sum_ofLanes_76 ⟨Nat.le_of_ble_eq_true rfl, Nat.le_of_ble_eq_true rfl⟩ hZ hK hP hD hS hA [] [0, 1] [0, 1] rfl rfl rfl rfl (by decide) rfl rfl (fun H locs hP hD hS => ?_)
      refine lv_istore (lv' := [(6, .int r76), (5, .int r60), (4, .int r44), (3, .int r30), (0, .ref r), (2, .int x2), (7, .int x7)]) hx hb d_Sum_ofLanes_79 hl (by decide) rfl (fun ls hl => ?_)
      refine lv_iinc (v := (x7 + 16)) (lv' := [(7, .int (x7 + 16)), (6, .int r76), (5, .int r60), (4, .int r44), (3, .int r30), (0, .ref r), (2, .int x2)]) hx hb d_Sum_ofLanes_81 hl (k := 6) rfl (congrArg (fun z => x7 + z) (by decide)) (by decide) rfl (fun ls hl => ?_)
      refine lv_goto (tgt := 17) hx hb d_Sum_ofLanes_84 (by decide) ?_
      exact ih17 r30 r44 r60 r76 (x7 + 16) hf _ _ hP hD hS _ (lv_sub hl [5, 6, 4, 3, 2, 1, 0] rfl)
noncomputable def j_Sum_ofLanes_0 (N : Nat) (rL : Nat) (x1 : Int32) (x2 : Int32) (rn : Int32) (rf : Nat → Int32)  : Option (Int32) :=
  (loop5 (b_Sum_ofLanes_17 rL x2 rn rf ) N (606290984 : Int32) (-2048144777 : Int32) (0 : Int32) (1640531535 : Int32) x1)
set_option maxHeartbeats 4000000 in
set_option maxRecDepth 100000 in
theorem k_Sum_ofLanes_0 {r_z : Int32} (C : Fx p s m args meth c cd_Sum_ofLanes 8 R_Sum lw_g (some .int)) (hK : va_K (dC, dI) vwCl [(cB, .byte), (cI, .int), (cJ, .long)] s) (hA : ∀ q, s.heap.size ≤ q → A q) (x1 : Int32) (x2 : Int32) (rn : Int32) (rf : Nat → Int32)  (hf : j_Sum_ofLanes_0 N rL x1 x2 rn rf  = some r_z) (hP : va_P (dC, dI) vwCl (wd_Sum_ofLanes r ra cB cI cJ rL rn rf) H) (hD : va_D A (wd_Sum_ofLanes r ra cB cI cJ rL rn rf)) (hS : va_S A s.heap H locs) (hl : lv_has ls 8 [(0, .ref r), (1, .int x1), (2, .int x2)]) : W p l e rm_Sum_ofLanes s m args below meth c H locs 0 0 (MQ below (sQi (dC, dI) vwCl [(cB, .byte), (cI, .int), (cJ, .long)] A r_z (wd_Sum_ofLanes r ra cB cI cJ rL rn rf)) args s 0 0 A) (F0 m 0 ls []) := by
  obtain ⟨hx, hb, hml, hown, hts, hr, hlocks, hZ⟩ := id C
  unfold j_Sum_ofLanes_0 at hf
  refine lv_ldc (v := 606290984) hx hb hown (hts _ w_152) d_Sum_ofLanes_0 ?_
  refine lv_istore_n (lv' := [(3, .int (606290984 : Int32)), (0, .ref r), (1, .int x1), (2, .int x2)]) hx hb d_Sum_ofLanes_2 rfl hl (by decide) rfl (fun ls hl => ?_)
  refine lv_ldc (v := -2048144777) hx hb hown (hts _ w_146) d_Sum_ofLanes_3 ?_
  refine lv_istore (lv' := [(4, .int (-2048144777 : Int32)), (3, .int (606290984 : Int32)), (0, .ref r), (1, .int x1), (2, .int x2)]) hx hb d_Sum_ofLanes_5 hl (by decide) rfl (fun ls hl => ?_)
  refine lv_iconst (v := 0) hx hb d_Sum_ofLanes_7 (by decide) ?_
  refine lv_istore (lv' := [(5, .int (0 : Int32)), (4, .int (-2048144777 : Int32)), (3, .int (606290984 : Int32)), (0, .ref r), (1, .int x1), (2, .int x2)]) hx hb d_Sum_ofLanes_8 hl (by decide) rfl (fun ls hl => ?_)
  refine lv_ldc (v := 1640531535) hx hb hown (hts _ w_153) d_Sum_ofLanes_10 ?_
  refine lv_istore (lv' := [(6, .int (1640531535 : Int32)), (5, .int (0 : Int32)), (4, .int (-2048144777 : Int32)), (3, .int (606290984 : Int32)), (0, .ref r), (1, .int x1), (2, .int x2)]) hx hb d_Sum_ofLanes_12 hl (by decide) rfl (fun ls hl => ?_)
  refine lv_iload_n hx hb d_Sum_ofLanes_14 rfl (lv_at hl 5 rfl) ?_
  refine lv_istore (lv' := [(7, .int x1), (6, .int (1640531535 : Int32)), (5, .int (0 : Int32)), (4, .int (-2048144777 : Int32)), (3, .int (606290984 : Int32)), (0, .ref r), (1, .int x1), (2, .int x2)]) hx hb d_Sum_ofLanes_15 hl (by decide) rfl (fun ls hl => ?_)
  exact k_Sum_ofLanes_17 C hK hA x2 rn rf  N (606290984 : Int32) (-2048144777 : Int32) (0 : Int32) (1640531535 : Int32) x1 hf _ _ hP hD hS _ (lv_sub hl [5, 7, 4, 3, 2, 1, 0] rfl)
end
noncomputable abbrev f_Sum_ofLanes (N : Nat) (rL : Nat) (x1 : Int32) (x2 : Int32) (rn : Int32) (rf : Nat → Int32) : Option (Int32) := j_Sum_ofLanes_0 N rL x1 x2 rn rf
set_option maxRecDepth 100000 in
theorem c_Sum_ofLanes {N : Nat} (l : Launch) (dC : Nat → ClassId) (dI : Nat → Nat → Nat) (cB cI cJ : ClassId) (r ra rL : Nat) (rn : Int32) (rf : Nat → Int32) (x1 : Int32) (x2 : Int32) {r_z : Int32} (hf : f_Sum_ofLanes N rL x1 x2 rn rf = some r_z) : MetI l y_Sum_ofLanes ws_Sum_ofLanes rm_Sum_ofLanes (dC, dI) vwCl [(cB, .byte), (cI, .int), (cJ, .long)] [.ref r, .int x1, .int x2] (wd_Sum_ofLanes r ra cB cI cJ rL rn rf) r_z (wd_Sum_ofLanes r ra cB cI cJ rL rn rf) 0 0 :=
  s_ofi (bytes := cd_Sum_ofLanes) (maxL := 8) (ret := (some .int)) (by decide) rfl (Nat.le_of_ble_eq_true rfl) (fun p e s m below meth c A ls C hK hA hP hD hS hl => k_Sum_ofLanes_0 C hK hA x1 x2 rn rf hf hP hD hS (lv_sub hl [0, 1, 2] rfl))

abbrev wd_Sum_of (r ra : Nat) (cB cI cJ : ClassId) (rL : Nat) (rn : Int32) (rf : Nat → Int32) : va_W := [(r, .inr (1, [.ref ra, .int rn])), (ra, .inl (cB, rL, .inl rf))]
abbrev rm_Sum_of : Room := { frames := 3, cells := 0, slots := 0, locals := 69 }
section
variable {p : Program} {l : Launch} {e : Env} {s : State} {m : MethodId} {args : Array Value} {below : List Frame} {meth : Method} {c : Code} {dC : Nat → ClassId} {dI : Nat → Nat → Nat} {A : Nat → Prop} {cB cI cJ : ClassId} {H : Heap} {locs : List Loc} {ls : Array Slot} {N : Nat} {r ra rL : Nat}
noncomputable def b_Sum_of_77 (rL : Nat) (x2 : Int32) (rn : Int32) (rf : Nat → Int32)  (kh77 : Int32 → Int32 → Option (Int32)) (x4 : Int32) (x5 : Int32) : Option (Int32) :=
  (if x2 ≤ x4 then (some (((((x5 ^^^ (us32 x5 (15 : Int32))) * (-2048144777 : Int32)) ^^^ (us32 ((x5 ^^^ (us32 x5 (15 : Int32))) * (-2048144777 : Int32)) (13 : Int32))) * (-1028477379 : Int32)) ^^^ (us32 ((((x5 ^^^ (us32 x5 (15 : Int32))) * (-2048144777 : Int32)) ^^^ (us32 ((x5 ^^^ (us32 x5 (15 : Int32))) * (-2048144777 : Int32)) (13 : Int32))) * (-1028477379 : Int32)) (16 : Int32))) : Option (Int32)) else bd1 (f_Row_get rL x4 rn rf) (fun r88 => bd1 (f_Sum_rotated (x5 + (r88 * (374761393 : Int32))) (11 : Int32)) (fun r97 => (kh77 (x4 + 1) (r97 * (-1640531535 : Int32))))))
set_option maxHeartbeats 4000000 in
set_option maxRecDepth 100000 in
theorem k_Sum_of_77 {r_z : Int32} (C : Fx p s m args meth c cd_Sum_of 6 R_Sum lw_g (some .int)) (hK : va_K (dC, dI) vwCl [(cB, .byte), (cI, .int), (cJ, .long)] s) (hA : ∀ q, s.heap.size ≤ q → A q) (x2 : Int32) (rn : Int32) (rf : Nat → Int32)  : ∀ (n : Nat) (x4 : Int32) (x5 : Int32), loop2 (b_Sum_of_77 rL x2 rn rf ) n x4 x5 = some r_z → ∀ (H : Heap) (locs : List Loc), va_P (dC, dI) vwCl (wd_Sum_of r ra cB cI cJ rL rn rf) H → va_D A (wd_Sum_of r ra cB cI cJ rL rn rf) → va_S A s.heap H locs → ∀ (ls : Array Slot), lv_has ls 6 [(0, .ref r), (2, .int x2), (4, .int x4), (5, .int x5)] → W p l e rm_Sum_of s m args below meth c H locs 0 0 (MQ below (sQi (dC, dI) vwCl [(cB, .byte), (cI, .int), (cJ, .long)] A r_z (wd_Sum_of r ra cB cI cJ rL rn rf)) args s 0 0 A) (F0 m 77 ls []) := by
  obtain ⟨hx, hb, hml, hown, hts, hr, hlocks, hZ⟩ := id C
  intro n
  induction n with
  | zero => intro x4 x5 hf; cases hf
  | succ n ih77 =>
    intro x4 x5 hf H locs hP hD hS ls hl
    have hf : b_Sum_of_77 rL x2 rn rf  (loop2 (b_Sum_of_77 rL x2 rn rf ) n) x4 x5 = some r_z := hf
    generalize loop2 (b_Sum_of_77 rL x2 rn rf ) n = kh77 at hf ih77
    unfold b_Sum_of_77 at hf
    refine lv_iload hx hb d_Sum_of_77 (lv_at hl 2 rfl) ?_
    refine lv_iload_n hx hb d_Sum_of_79 rfl (lv_at hl 1 rfl) ?_
    refine lv_icmp_ge (tgt := 111) hx hb d_Sum_of_80 (by decide) (fun c_80 => ?_) (fun c_80 => ?_)
    · have hf := br_pos c_80 hf
      refine lv_iload hx hb d_Sum_of_111 (lv_at hl 3 rfl) ?_
      refine lv_iload hx hb d_Sum_of_113 (lv_at hl 3 rfl) ?_
      refine lv_bipush (v := 15) hx hb d_Sum_of_115 (by decide) ?_
      refine lv_iushr (v := (us32 x5 (15 : Int32))) hx hb d_Sum_of_117 rfl ?_
      refine lv_ixor hx hb d_Sum_of_118 ?_
      refine lv_ldc (v := -2048144777) hx hb hown (hts _ w_146) d_Sum_of_119 ?_
      refine lv_imul hx hb d_Sum_of_121 ?_
      refine lv_istore (lv' := [(5, .int ((x5 ^^^ (us32 x5 (15 : Int32))) * (-2048144777 : Int32))), (0, .ref r), (2, .int x2), (4, .int x4)]) hx hb d_Sum_of_122 hl (by decide) rfl (fun ls hl => ?_)
      refine lv_iload hx hb d_Sum_of_124 (lv_at hl 0 rfl) ?_
      refine lv_iload hx hb d_Sum_of_126 (lv_at hl 0 rfl) ?_
      refine lv_bipush (v := 13) hx hb d_Sum_of_128 (by decide) ?_
      refine lv_iushr (v := (us32 ((x5 ^^^ (us32 x5 (15 : Int32))) * (-2048144777 : Int32)) (13 : Int32))) hx hb d_Sum_of_130 rfl ?_
      refine lv_ixor hx hb d_Sum_of_131 ?_
      refine lv_ldc (v := -1028477379) hx hb hown (hts _ w_159) d_Sum_of_132 ?_
      refine lv_imul hx hb d_Sum_of_134 ?_
      refine lv_istore (lv' := [(5, .int ((((x5 ^^^ (us32 x5 (15 : Int32))) * (-2048144777 : Int32)) ^^^ (us32 ((x5 ^^^ (us32 x5 (15 : Int32))) * (-2048144777 : Int32)) (13 : Int32))) * (-1028477379 : Int32))), (0, .ref r), (2, .int x2), (4, .int x4)]) hx hb d_Sum_of_135 hl (by decide) rfl (fun ls hl => ?_)
      refine lv_iload hx hb d_Sum_of_137 (lv_at hl 0 rfl) ?_
      refine lv_iload hx hb d_Sum_of_139 (lv_at hl 0 rfl) ?_
      refine lv_bipush (v := 16) hx hb d_Sum_of_141 (by decide) ?_
      refine lv_iushr (v := (us32 ((((x5 ^^^ (us32 x5 (15 : Int32))) * (-2048144777 : Int32)) ^^^ (us32 ((x5 ^^^ (us32 x5 (15 : Int32))) * (-2048144777 : Int32)) (13 : Int32))) * (-1028477379 : Int32)) (16 : Int32))) hx hb d_Sum_of_143 rfl ?_
      refine lv_ixor hx hb d_Sum_of_144 ?_
      cases hf
      exact s_iret hx hb hr hlocks hP hK hD hS d_Sum_of_145
    · have hf := br_neg c_80 hf
      refine lv_iload hx hb d_Sum_of_83 (lv_at hl 3 rfl) ?_
      refine lv_aload_n hx hb d_Sum_of_85 rfl (lv_at hl 0 rfl) ?_
      refine lv_iload hx hb d_Sum_of_86 (lv_at hl 2 rfl) ?_
      obtain ⟨r88, hc88, hf⟩ := bd1_some hf
      refine s_Vi (As := [.int x4]) (rest := [.int x5]) (wr := []) (ws' := wd_Sum_of r ra cB cI cJ rL rn rf) C.call (c_Row_get l dC dI cB cI cJ r ra rL rn rf x4 hc88) (cwV 1 hts (gd_V w_160 w_80 w_81 w_12 w_82) rfl rfl rfl ⟨rfl, hd_Row_get⟩ ⟨Nat.le_of_ble_eq_true rfl, Nat.le_of_ble_eq_true rfl⟩) rfl hl.1 rfl (Nat.le_of_ble_eq_true rfl) d_Sum_of_88 ⟨Nat.le_of_ble_eq_true rfl, Nat.le_of_ble_eq_true rfl⟩ hZ hK hP hD hS hA 1 0 rfl rfl [0, 1] [] [0, 1] rfl rfl rfl rfl (by decide) rfl rfl (fun H locs hP hD hS => ?_)
      refine lv_ldc (v := 374761393) hx hb hown (hts _ w_158) d_Sum_of_91 ?_
      refine lv_imul hx hb d_Sum_of_93 ?_
      refine lv_iadd hx hb d_Sum_of_94 ?_
      refine lv_bipush (v := 11) hx hb d_Sum_of_95 (by decide) ?_
      obtain ⟨r97, hc97, hf⟩ := bd1_some hf
      refine s_Si (As := [.int (x5 + (r88 * (374761393 : Int32))), .int (11 : Int32)]) (rest := []) (wr := [(r, .inr (1, [.ref ra, .int rn])), (ra, .inl (cB, rL, .inl rf))]) (ws' := wd_Sum_of r ra cB cI cJ rL rn rf) C.call (c_Sum_rotated l dC dI cB cI cJ    (x5 + (r88 * (374761393 : Int32))) (11 : Int32) hc97) (va_cwS 2 hts (gd_S w_147 w_148 w_149 w_150) rfl rfl rfl hd_Sum_rotated ⟨Nat.le_of_ble_eq_true rfl, Nat.le_of_ble_eq_true rfl⟩) rfl hl.1 rfl (Nat.le_of_ble_eq_true rfl) d_Sum_of_97 ⟨Nat.le_of_ble_eq_true rfl, Nat.le_of_ble_eq_true rfl⟩ hZ hK hP hD hS hA [] [0, 1] [0, 1] rfl rfl rfl rfl (by decide) rfl rfl (fun H locs hP hD hS => ?_)
      refine lv_ldc (v := -1640531535) hx hb hown (hts _ w_151) d_Sum_of_100 ?_
      refine lv_imul hx hb d_Sum_of_102 ?_
      refine lv_istore (lv' := [(5, .int (r97 * (-1640531535 : Int32))), (0, .ref r), (2, .int x2), (4, .int x4)]) hx hb d_Sum_of_103 hl (by decide) rfl (fun ls hl => ?_)
      refine lv_iinc (v := (x4 + 1)) (lv' := [(4, .int (x4 + 1)), (5, .int (r97 * (-1640531535 : Int32))), (0, .ref r), (2, .int x2)]) hx hb d_Sum_of_105 hl (k := 3) rfl (congrArg (fun z => x4 + z) (by decide)) (by decide) rfl (fun ls hl => ?_)
      refine lv_goto (tgt := 77) hx hb d_Sum_of_108 (by decide) ?_
      exact ih77 (x4 + 1) (r97 * (-1640531535 : Int32)) hf _ _ hP hD hS _ (lv_sub hl [2, 3, 0, 1] rfl)
noncomputable def b_Sum_of_41 (N : Nat) (rL : Nat) (x2 : Int32) (rn : Int32) (rf : Nat → Int32)  (kh41 : Int32 → Int32 → Option (Int32)) (x4 : Int32) (x5 : Int32) : Option (Int32) :=
  (if (x2 - x4) < (4 : Int32) then (loop2 (b_Sum_of_77 rL x2 rn rf ) N x4 x5) else bd1 (f_Row_word rL x4 rn rf) (fun r54 => bd1 (f_Sum_rotated (x5 + (r54 * (-1028477379 : Int32))) (17 : Int32)) (fun r63 => (kh41 (x4 + 4) (r63 * (668265263 : Int32))))))
set_option maxHeartbeats 4000000 in
set_option maxRecDepth 100000 in
theorem k_Sum_of_41 {r_z : Int32} (C : Fx p s m args meth c cd_Sum_of 6 R_Sum lw_g (some .int)) (hK : va_K (dC, dI) vwCl [(cB, .byte), (cI, .int), (cJ, .long)] s) (hA : ∀ q, s.heap.size ≤ q → A q) (x2 : Int32) (rn : Int32) (rf : Nat → Int32)  : ∀ (n : Nat) (x4 : Int32) (x5 : Int32), loop2 (b_Sum_of_41 N rL x2 rn rf ) n x4 x5 = some r_z → ∀ (H : Heap) (locs : List Loc), va_P (dC, dI) vwCl (wd_Sum_of r ra cB cI cJ rL rn rf) H → va_D A (wd_Sum_of r ra cB cI cJ rL rn rf) → va_S A s.heap H locs → ∀ (ls : Array Slot), lv_has ls 6 [(0, .ref r), (2, .int x2), (4, .int x4), (5, .int x5)] → W p l e rm_Sum_of s m args below meth c H locs 0 0 (MQ below (sQi (dC, dI) vwCl [(cB, .byte), (cI, .int), (cJ, .long)] A r_z (wd_Sum_of r ra cB cI cJ rL rn rf)) args s 0 0 A) (F0 m 41 ls []) := by
  obtain ⟨hx, hb, hml, hown, hts, hr, hlocks, hZ⟩ := id C
  intro n
  induction n with
  | zero => intro x4 x5 hf; cases hf
  | succ n ih41 =>
    intro x4 x5 hf H locs hP hD hS ls hl
    have hf : b_Sum_of_41 N rL x2 rn rf  (loop2 (b_Sum_of_41 N rL x2 rn rf ) n) x4 x5 = some r_z := hf
    generalize loop2 (b_Sum_of_41 N rL x2 rn rf ) n = kh41 at hf ih41
    unfold b_Sum_of_41 at hf
    refine lv_iload_n hx hb d_Sum_of_41 rfl (lv_at hl 1 rfl) ?_
    refine lv_iload hx hb d_Sum_of_42 (lv_at hl 2 rfl) ?_
    refine lv_isub hx hb d_Sum_of_44 ?_
    refine lv_iconst (v := 4) hx hb d_Sum_of_45 (by decide) ?_
    refine lv_icmp_lt (tgt := 77) hx hb d_Sum_of_46 (by decide) (fun c_46 => ?_) (fun c_46 => ?_)
    · have hf := br_pos c_46 hf
      exact k_Sum_of_77 C hK hA x2 rn rf  N x4 x5 hf _ _ hP hD hS _ (lv_sub hl [0, 1, 2, 3] rfl)
    · have hf := br_neg c_46 hf
      refine lv_iload hx hb d_Sum_of_49 (lv_at hl 3 rfl) ?_
      refine lv_aload_n hx hb d_Sum_of_51 rfl (lv_at hl 0 rfl) ?_
      refine lv_iload hx hb d_Sum_of_52 (lv_at hl 2 rfl) ?_
      obtain ⟨r54, hc54, hf⟩ := bd1_some hf
      refine s_Vi (As := [.int x4]) (rest := [.int x5]) (wr := []) (ws' := wd_Sum_of r ra cB cI cJ rL rn rf) C.call (c_Row_word l dC dI cB cI cJ r ra rL rn rf x4 hc54) (cwV 1 hts (gd_V w_154 w_59 w_60 w_12 w_61) rfl rfl rfl ⟨rfl, hd_Row_word⟩ ⟨Nat.le_of_ble_eq_true rfl, Nat.le_of_ble_eq_true rfl⟩) rfl hl.1 rfl (Nat.le_of_ble_eq_true rfl) d_Sum_of_54 ⟨Nat.le_of_ble_eq_true rfl, Nat.le_of_ble_eq_true rfl⟩ hZ hK hP hD hS hA 1 0 rfl rfl [0, 1] [] [0, 1] rfl rfl rfl rfl (by decide) rfl rfl (fun H locs hP hD hS => ?_)
      refine lv_ldc (v := -1028477379) hx hb hown (hts _ w_159) d_Sum_of_57 ?_
      refine lv_imul hx hb d_Sum_of_59 ?_
      refine lv_iadd hx hb d_Sum_of_60 ?_
      refine lv_bipush (v := 17) hx hb d_Sum_of_61 (by decide) ?_
      obtain ⟨r63, hc63, hf⟩ := bd1_some hf
      refine s_Si (As := [.int (x5 + (r54 * (-1028477379 : Int32))), .int (17 : Int32)]) (rest := []) (wr := [(r, .inr (1, [.ref ra, .int rn])), (ra, .inl (cB, rL, .inl rf))]) (ws' := wd_Sum_of r ra cB cI cJ rL rn rf) C.call (c_Sum_rotated l dC dI cB cI cJ    (x5 + (r54 * (-1028477379 : Int32))) (17 : Int32) hc63) (va_cwS 2 hts (gd_S w_147 w_148 w_149 w_150) rfl rfl rfl hd_Sum_rotated ⟨Nat.le_of_ble_eq_true rfl, Nat.le_of_ble_eq_true rfl⟩) rfl hl.1 rfl (Nat.le_of_ble_eq_true rfl) d_Sum_of_63 ⟨Nat.le_of_ble_eq_true rfl, Nat.le_of_ble_eq_true rfl⟩ hZ hK hP hD hS hA [] [0, 1] [0, 1] rfl rfl rfl rfl (by decide) rfl rfl (fun H locs hP hD hS => ?_)
      refine lv_ldc (v := 668265263) hx hb hown (hts _ w_161) d_Sum_of_66 ?_
      refine lv_imul hx hb d_Sum_of_68 ?_
      refine lv_istore (lv' := [(5, .int (r63 * (668265263 : Int32))), (0, .ref r), (2, .int x2), (4, .int x4)]) hx hb d_Sum_of_69 hl (by decide) rfl (fun ls hl => ?_)
      refine lv_iinc (v := (x4 + 4)) (lv' := [(4, .int (x4 + 4)), (5, .int (r63 * (668265263 : Int32))), (0, .ref r), (2, .int x2)]) hx hb d_Sum_of_71 hl (k := 3) rfl (congrArg (fun z => x4 + z) (by decide)) (by decide) rfl (fun ls hl => ?_)
      refine lv_goto (tgt := 41) hx hb d_Sum_of_74 (by decide) ?_
      exact ih41 (x4 + 4) (r63 * (668265263 : Int32)) hf _ _ hP hD hS _ (lv_sub hl [2, 3, 0, 1] rfl)
noncomputable def j_Sum_of_33 (N : Nat) (rL : Nat) (x2 : Int32) (x3 : Int32) (x4 : Int32) (t0 : Int32) (rn : Int32) (rf : Nat → Int32)  : Option (Int32) :=
  (loop2 (b_Sum_of_41 N rL x2 rn rf ) N x4 (t0 + x3))
set_option maxHeartbeats 4000000 in
set_option maxRecDepth 100000 in
theorem k_Sum_of_33 {r_z : Int32} (C : Fx p s m args meth c cd_Sum_of 6 R_Sum lw_g (some .int)) (hK : va_K (dC, dI) vwCl [(cB, .byte), (cI, .int), (cJ, .long)] s) (hA : ∀ q, s.heap.size ≤ q → A q) (x2 : Int32) (x3 : Int32) (x4 : Int32) (t0 : Int32) (rn : Int32) (rf : Nat → Int32)  (hf : j_Sum_of_33 N rL x2 x3 x4 t0 rn rf  = some r_z) (hP : va_P (dC, dI) vwCl (wd_Sum_of r ra cB cI cJ rL rn rf) H) (hD : va_D A (wd_Sum_of r ra cB cI cJ rL rn rf)) (hS : va_S A s.heap H locs) (hl : lv_has ls 6 [(0, .ref r), (2, .int x2), (3, .int x3), (4, .int x4)]) : W p l e rm_Sum_of s m args below meth c H locs 0 0 (MQ below (sQi (dC, dI) vwCl [(cB, .byte), (cI, .int), (cJ, .long)] A r_z (wd_Sum_of r ra cB cI cJ rL rn rf)) args s 0 0 A) (F0 m 33 ls [.int t0]) := by
  obtain ⟨hx, hb, hml, hown, hts, hr, hlocks, hZ⟩ := id C
  unfold j_Sum_of_33 at hf
  refine lv_istore (lv' := [(5, .int t0), (0, .ref r), (2, .int x2), (3, .int x3), (4, .int x4)]) hx hb d_Sum_of_33 hl (by decide) rfl (fun ls hl => ?_)
  refine lv_iload hx hb d_Sum_of_35 (lv_at hl 0 rfl) ?_
  refine lv_iload_n hx hb d_Sum_of_37 rfl (lv_at hl 3 rfl) ?_
  refine lv_iadd hx hb d_Sum_of_38 ?_
  refine lv_istore (lv' := [(5, .int (t0 + x3)), (0, .ref r), (2, .int x2), (3, .int x3), (4, .int x4)]) hx hb d_Sum_of_39 hl (by decide) rfl (fun ls hl => ?_)
  exact k_Sum_of_41 C hK hA x2 rn rf  N x4 (t0 + x3) hf _ _ hP hD hS _ (lv_sub hl [1, 2, 4, 0] rfl)
noncomputable def j_Sum_of_0 (N : Nat) (rL : Nat) (x1 : Int32) (x2 : Int32) (rn : Int32) (rf : Nat → Int32)  : Option (Int32) :=
  (if (x2 - x1) < (16 : Int32) then (j_Sum_of_33 N rL x2 (x2 - x1) (x1 + (((x2 - x1) / (16 : Int32)) * (16 : Int32))) (374761393 : Int32) rn rf ) else bd1 (f_Sum_ofLanes N rL x1 (x1 + (((x2 - x1) / (16 : Int32)) * (16 : Int32))) rn rf) (fun r25 => (j_Sum_of_33 N rL x2 (x2 - x1) (x1 + (((x2 - x1) / (16 : Int32)) * (16 : Int32))) r25 rn rf )))
set_option maxHeartbeats 4000000 in
set_option maxRecDepth 100000 in
theorem k_Sum_of_0 {r_z : Int32} (C : Fx p s m args meth c cd_Sum_of 6 R_Sum lw_g (some .int)) (hK : va_K (dC, dI) vwCl [(cB, .byte), (cI, .int), (cJ, .long)] s) (hA : ∀ q, s.heap.size ≤ q → A q) (x1 : Int32) (x2 : Int32) (rn : Int32) (rf : Nat → Int32)  (hf : j_Sum_of_0 N rL x1 x2 rn rf  = some r_z) (hP : va_P (dC, dI) vwCl (wd_Sum_of r ra cB cI cJ rL rn rf) H) (hD : va_D A (wd_Sum_of r ra cB cI cJ rL rn rf)) (hS : va_S A s.heap H locs) (hl : lv_has ls 6 [(0, .ref r), (1, .int x1), (2, .int x2)]) : W p l e rm_Sum_of s m args below meth c H locs 0 0 (MQ below (sQi (dC, dI) vwCl [(cB, .byte), (cI, .int), (cJ, .long)] A r_z (wd_Sum_of r ra cB cI cJ rL rn rf)) args s 0 0 A) (F0 m 0 ls []) := by
  obtain ⟨hx, hb, hml, hown, hts, hr, hlocks, hZ⟩ := id C
  unfold j_Sum_of_0 at hf
  refine lv_iload_n hx hb d_Sum_of_0 rfl (lv_at hl 2 rfl) ?_
  refine lv_iload_n hx hb d_Sum_of_1 rfl (lv_at hl 1 rfl) ?_
  refine lv_isub hx hb d_Sum_of_2 ?_
  refine lv_istore_n (lv' := [(3, .int (x2 - x1)), (0, .ref r), (1, .int x1), (2, .int x2)]) hx hb d_Sum_of_3 rfl hl (by decide) rfl (fun ls hl => ?_)
  refine lv_iload_n hx hb d_Sum_of_4 rfl (lv_at hl 2 rfl) ?_
  refine lv_iload_n hx hb d_Sum_of_5 rfl (lv_at hl 0 rfl) ?_
  refine lv_bipush (v := 16) hx hb d_Sum_of_6 (by decide) ?_
  refine lv_idiv hx hb d_Sum_of_8 (by decide) ?_
  refine lv_bipush (v := 16) hx hb d_Sum_of_9 (by decide) ?_
  refine lv_imul hx hb d_Sum_of_11 ?_
  refine lv_iadd hx hb d_Sum_of_12 ?_
  refine lv_istore (lv' := [(4, .int (x1 + (((x2 - x1) / (16 : Int32)) * (16 : Int32)))), (3, .int (x2 - x1)), (0, .ref r), (1, .int x1), (2, .int x2)]) hx hb d_Sum_of_13 hl (by decide) rfl (fun ls hl => ?_)
  refine lv_iload_n hx hb d_Sum_of_15 rfl (lv_at hl 1 rfl) ?_
  refine lv_bipush (v := 16) hx hb d_Sum_of_16 (by decide) ?_
  refine lv_icmp_lt (tgt := 31) hx hb d_Sum_of_18 (by decide) (fun c_18 => ?_) (fun c_18 => ?_)
  · have hf := br_pos c_18 hf
    refine lv_ldc (v := 374761393) hx hb hown (hts _ w_158) d_Sum_of_31 ?_
    exact k_Sum_of_33 C hK hA x2 (x2 - x1) (x1 + (((x2 - x1) / (16 : Int32)) * (16 : Int32))) (374761393 : Int32) rn rf  hf hP hD hS (lv_sub hl [2, 4, 1, 0] rfl)
  · have hf := br_neg c_18 hf
    refine lv_aload_n hx hb d_Sum_of_21 rfl (lv_at hl 2 rfl) ?_
    refine lv_iload_n hx hb d_Sum_of_22 rfl (lv_at hl 3 rfl) ?_
    refine lv_iload hx hb d_Sum_of_23 (lv_at hl 0 rfl) ?_
    obtain ⟨r25, hc25, hf⟩ := bd1_some hf
    refine s_Si (As := [.ref r, .int x1, .int (x1 + (((x2 - x1) / (16 : Int32)) * (16 : Int32)))]) (rest := []) (wr := []) (ws' := wd_Sum_of r ra cB cI cJ rL rn rf) C.call (c_Sum_ofLanes l dC dI cB cI cJ r ra rL rn rf x1 (x1 + (((x2 - x1) / (16 : Int32)) * (16 : Int32))) hc25) (va_cwS 3 hts (gd_S w_162 w_163 w_149 w_164) rfl rfl rfl hd_Sum_ofLanes ⟨Nat.le_of_ble_eq_true rfl, Nat.le_of_ble_eq_true rfl⟩) rfl hl.1 rfl (Nat.le_of_ble_eq_true rfl) d_Sum_of_25 ⟨Nat.le_of_ble_eq_true rfl, Nat.le_of_ble_eq_true rfl⟩ hZ hK hP hD hS hA [0, 1] [] [0, 1] rfl rfl rfl rfl (by decide) rfl rfl (fun H locs hP hD hS => ?_)
    refine lv_goto (tgt := 33) hx hb d_Sum_of_28 (by decide) ?_
    exact k_Sum_of_33 C hK hA x2 (x2 - x1) (x1 + (((x2 - x1) / (16 : Int32)) * (16 : Int32))) r25 rn rf  hf hP hD hS (lv_sub hl [2, 4, 1, 0] rfl)
end
noncomputable abbrev f_Sum_of (N : Nat) (rL : Nat) (x1 : Int32) (x2 : Int32) (rn : Int32) (rf : Nat → Int32) : Option (Int32) := j_Sum_of_0 N rL x1 x2 rn rf
set_option maxRecDepth 100000 in
theorem c_Sum_of {N : Nat} (l : Launch) (dC : Nat → ClassId) (dI : Nat → Nat → Nat) (cB cI cJ : ClassId) (r ra rL : Nat) (rn : Int32) (rf : Nat → Int32) (x1 : Int32) (x2 : Int32) {r_z : Int32} (hf : f_Sum_of N rL x1 x2 rn rf = some r_z) : MetI l y_Sum_of ws_Sum_of rm_Sum_of (dC, dI) vwCl [(cB, .byte), (cI, .int), (cJ, .long)] [.ref r, .int x1, .int x2] (wd_Sum_of r ra cB cI cJ rL rn rf) r_z (wd_Sum_of r ra cB cI cJ rL rn rf) 0 0 :=
  s_ofi (bytes := cd_Sum_of) (maxL := 6) (ret := (some .int)) (by decide) rfl (Nat.le_of_ble_eq_true rfl) (fun p e s m below meth c A ls C hK hA hP hD hS hl => k_Sum_of_0 C hK hA x1 x2 rn rf hf hP hD hS (lv_sub hl [0, 1, 2] rfl))
