abbrev wd_T_place (x g u hs t bw fw br fr : Nat) (cB cI cJ : ClassId) (xp : Int32) : va_W := [(x, .inr (0, [.ref g, .ref u, .ref hs, .ref t, .ref bw, .ref fw, .ref br, .ref fr, .int xp]))]
abbrev rm_T_place : Room := { frames := 0, cells := 0, slots := 0, locals := 0 }
section
variable {p : Program} {l : Launch} {e : Env} {s : State} {m : MethodId} {args : Array Value} {below : List Frame} {meth : Method} {c : Code} {dC : Nat → ClassId} {dI : Nat → Nat → Nat} {A : Nat → Prop} {cB cI cJ : ClassId} {H : Heap} {locs : List Loc} {ls : Array Slot} {N : Nat} {x g u hs t bw fw br fr : Nat}
noncomputable def j_T_place_0 (xp : Int32)  : Option (Int32) :=
  (some xp : Option (Int32))
set_option maxHeartbeats 4000000 in
set_option maxRecDepth 100000 in
theorem k_T_place_0 {r_z : Int32} (C : Fx p s m args meth c cd_T_place 1 R_T lw_g (some .int)) (hK : va_K (dC, dI) vwCl [(cB, .byte), (cI, .int), (cJ, .long)] s) (hA : ∀ q, s.heap.size ≤ q → A q) (xp : Int32)  (hf : j_T_place_0 xp  = some r_z) (hP : va_P (dC, dI) vwCl (wd_T_place x g u hs t bw fw br fr cB cI cJ xp) H) (hD : va_D A (wd_T_place x g u hs t bw fw br fr cB cI cJ xp)) (hS : va_S A s.heap H locs) (hl : lv_has ls 1 [(0, .ref x)]) : W p l e rm_T_place s m args below meth c H locs 0 0 (MQ below (sQi (dC, dI) vwCl [(cB, .byte), (cI, .int), (cJ, .long)] A r_z (wd_T_place x g u hs t bw fw br fr cB cI cJ xp)) args s 0 0 A) (F0 m 0 ls []) := by
  obtain ⟨hx, hb, hml, hown, hts, hr, hlocks, hZ⟩ := id C
  unfold j_T_place_0 at hf
  refine lv_aload_n hx hb d_T_place_0 rfl (lv_at hl 0 rfl) ?_
  refine va_get (D := (dC, dI)) (ci := 0) (v := .int xp) (C := R_T) (T := T_T) (N := 9) hx hb hts w_7 hown hK hP 0 rfl rfl 8 (by decide) (hts _ w_223) (fun _ h9 => h9) rfl d_T_place_1 ?_
  cases hf
  exact s_iret hx hb hr hlocks hP hK hD hS d_T_place_4
end
noncomputable abbrev f_T_place (xp : Int32) : Option (Int32) := j_T_place_0 xp
set_option maxRecDepth 100000 in
theorem c_T_place (l : Launch) (dC : Nat → ClassId) (dI : Nat → Nat → Nat) (cB cI cJ : ClassId) (x g u hs t bw fw br fr : Nat) (xp : Int32)  {r_z : Int32} (hf : f_T_place xp = some r_z) : MetI l y_T_place ws_T_place rm_T_place (dC, dI) vwCl [(cB, .byte), (cI, .int), (cJ, .long)] [.ref x] (wd_T_place x g u hs t bw fw br fr cB cI cJ xp) r_z (wd_T_place x g u hs t bw fw br fr cB cI cJ xp) 0 0 :=
  s_ofi (bytes := cd_T_place) (maxL := 1) (ret := (some .int)) (by decide) rfl (Nat.le_of_ble_eq_true rfl) (fun p e s m below meth c A ls C hK hA hP hD hS hl => k_T_place_0 C hK hA xp hf hP hD hS (lv_sub hl [0] rfl))

abbrev wd_T_remember (x g ga hs hsa u t bw fw br fr : Nat) (cB cI cJ : ClassId) (xp : Int32) (gn : Int32) (gf : Nat → Int32) (hsn : Int32) (hsf : Nat → Int32) : va_W := [(x, .inr (0, [.ref g, .ref u, .ref hs, .ref t, .ref bw, .ref fw, .ref br, .ref fr, .int xp])), (g, .inr (1, [.ref ga, .int gn])), (ga, .inl (cB, 8000, .inl gf)), (hs, .inr (1, [.ref hsa, .int hsn])), (hsa, .inl (cB, 8000, .inl hsf))]
abbrev rm_T_remember : Room := { frames := 3, cells := 0, slots := 0, locals := 63 }
section
variable {p : Program} {l : Launch} {e : Env} {s : State} {m : MethodId} {args : Array Value} {below : List Frame} {meth : Method} {c : Code} {dC : Nat → ClassId} {dI : Nat → Nat → Nat} {A : Nat → Prop} {cB cI cJ : ClassId} {H : Heap} {locs : List Loc} {ls : Array Slot} {N : Nat} {x g ga hs hsa u t bw fw br fr : Nat}
noncomputable def j_T_remember_0 (gn : Int32) (gf : Nat → Int32) (hsn : Int32) (hsf : Nat → Int32)  : Option (Int32 × Int32 × (Nat → Int32)) :=
  bd2 (f_Row_become 8000 8000 hsn hsf gn gf) (fun hsn_8 hsf_8 => bd1 (f_Row_cutTo (0 : Int32) gn) (fun gn_16 => (some (gn_16, hsn_8, hsf_8) : Option (Int32 × Int32 × (Nat → Int32)))))
set_option maxHeartbeats 4000000 in
set_option maxRecDepth 100000 in
theorem k_T_remember_0 {gn_z : Int32} {hsn_z : Int32} {hsf_z : Nat → Int32} (C : Fx p s m args meth c cd_T_remember 1 R_T lw_g none) (hK : va_K (dC, dI) vwCl [(cB, .byte), (cI, .int), (cJ, .long)] s) (hA : ∀ q, s.heap.size ≤ q → A q) (xp : Int32) (gn : Int32) (gf : Nat → Int32) (hsn : Int32) (hsf : Nat → Int32)  (hf : j_T_remember_0 gn gf hsn hsf  = some (gn_z, hsn_z, hsf_z)) (hP : va_P (dC, dI) vwCl (wd_T_remember x g ga hs hsa u t bw fw br fr cB cI cJ xp gn gf hsn hsf) H) (hD : va_D A (wd_T_remember x g ga hs hsa u t bw fw br fr cB cI cJ xp gn gf hsn hsf)) (hS : va_S A s.heap H locs) (hl : lv_has ls 1 [(0, .ref x)]) : W p l e rm_T_remember s m args below meth c H locs 0 0 (MQ below (sQv (dC, dI) vwCl [(cB, .byte), (cI, .int), (cJ, .long)] A (wd_T_remember x g ga hs hsa u t bw fw br fr cB cI cJ xp gn_z gf hsn_z hsf_z)) args s 0 0 A) (F0 m 0 ls []) := by
  obtain ⟨hx, hb, hml, hown, hts, hr, hlocks, hZ⟩ := id C
  unfold j_T_remember_0 at hf
  refine lv_aload_n hx hb d_T_remember_0 rfl (lv_at hl 0 rfl) ?_
  refine va_get (D := (dC, dI)) (ci := 0) (v := .ref hs) (C := R_T) (T := T_T) (N := 9) hx hb hts w_7 hown hK hP 0 rfl rfl 2 (by decide) (hts _ w_224) (fun _ h9 => h9) rfl d_T_remember_1 ?_
  refine lv_aload_n hx hb d_T_remember_4 rfl (lv_at hl 0 rfl) ?_
  refine va_get (D := (dC, dI)) (ci := 0) (v := .ref g) (C := R_T) (T := T_T) (N := 9) hx hb hts w_7 hown hK hP 0 rfl rfl 0 (by decide) (hts _ w_8) (fun _ h9 => h9) rfl d_T_remember_5 ?_
  obtain ⟨hsn_8, hsf_8, hc8, hf⟩ := bd2_some hf
  refine s_Vv (As := [.ref g]) (rest := []) (wr := [(x, .inr (0, [.ref g, .ref u, .ref hs, .ref t, .ref bw, .ref fw, .ref br, .ref fr, .int xp]))]) (ws' := wd_T_remember x g ga hs hsa u t bw fw br fr cB cI cJ xp gn gf hsn_8 hsf_8) C.call (c_Row_become l dC dI cB cI cJ hs hsa g ga 8000 8000 hsn hsf gn gf  hc8) (cwV 1 hts (gd_V w_36 w_37 w_38 w_12 w_39) rfl rfl rfl ⟨rfl, hd_Row_become⟩ ⟨Nat.le_of_ble_eq_true rfl, Nat.le_of_ble_eq_true rfl⟩) rfl hl.1 rfl (Nat.le_of_ble_eq_true rfl) d_T_remember_8 ⟨Nat.le_of_ble_eq_true rfl, Nat.le_of_ble_eq_true rfl⟩ hZ hK hP hD hS hA 1 3 rfl rfl [3, 4, 1, 2] [0] [0, 3, 4, 1, 2] rfl rfl rfl rfl (by decide) rfl rfl (fun H locs hP hD hS => ?_)
  refine lv_aload_n hx hb d_T_remember_11 rfl (lv_at hl 0 rfl) ?_
  refine va_get (D := (dC, dI)) (ci := 0) (v := .ref g) (C := R_T) (T := T_T) (N := 9) hx hb hts w_7 hown hK hP 0 rfl rfl 0 (by decide) (hts _ w_8) (fun _ h9 => h9) rfl d_T_remember_12 ?_
  refine lv_iconst (v := 0) hx hb d_T_remember_15 (by decide) ?_
  obtain ⟨gn_16, hc16, hf⟩ := bd1_some hf
  refine s_Vv (As := [.int (0 : Int32)]) (rest := []) (wr := [(x, .inr (0, [.ref g, .ref u, .ref hs, .ref t, .ref bw, .ref fw, .ref br, .ref fr, .int xp])), (ga, .inl (cB, 8000, .inl gf)), (hs, .inr (1, [.ref hsa, .int hsn_8])), (hsa, .inl (cB, 8000, .inl hsf_8))]) (ws' := wd_T_remember x g ga hs hsa u t bw fw br fr cB cI cJ xp gn_16 gf hsn_8 hsf_8) C.call (c_Row_cutTo l dC dI cB cI cJ g ga  gn (0 : Int32) hc16) (cwV 1 hts (gd_V w_131 w_30 w_31 w_12 w_32) rfl rfl rfl ⟨rfl, hd_Row_cutTo⟩ ⟨Nat.le_of_ble_eq_true rfl, Nat.le_of_ble_eq_true rfl⟩) rfl hl.1 rfl (Nat.le_of_ble_eq_true rfl) d_T_remember_16 ⟨Nat.le_of_ble_eq_true rfl, Nat.le_of_ble_eq_true rfl⟩ hZ hK hP hD hS hA 1 1 rfl rfl [1] [0, 2, 3, 4] [0, 4, 1, 2, 3] rfl rfl rfl rfl (by decide) rfl rfl (fun H locs hP hD hS => ?_)
  cases hf
  exact s_vret hx hb hr hlocks hP hK hD hS d_T_remember_19
end
noncomputable abbrev f_T_remember (gn : Int32) (gf : Nat → Int32) (hsn : Int32) (hsf : Nat → Int32) : Option (Int32 × Int32 × (Nat → Int32)) := j_T_remember_0 gn gf hsn hsf
set_option maxRecDepth 100000 in
theorem c_T_remember (l : Launch) (dC : Nat → ClassId) (dI : Nat → Nat → Nat) (cB cI cJ : ClassId) (x g ga hs hsa u t bw fw br fr : Nat) (xp : Int32) (gn : Int32) (gf : Nat → Int32) (hsn : Int32) (hsf : Nat → Int32)  {gn_z : Int32} {hsn_z : Int32} {hsf_z : Nat → Int32} (hf : f_T_remember gn gf hsn hsf = some (gn_z, hsn_z, hsf_z)) : MetV l y_T_remember ws_T_remember rm_T_remember (dC, dI) vwCl [(cB, .byte), (cI, .int), (cJ, .long)] [.ref x] (wd_T_remember x g ga hs hsa u t bw fw br fr cB cI cJ xp gn gf hsn hsf)  (wd_T_remember x g ga hs hsa u t bw fw br fr cB cI cJ xp gn_z gf hsn_z hsf_z) 0 0 :=
  s_ofv (bytes := cd_T_remember) (maxL := 1) (ret := none) (by decide) rfl (Nat.le_of_ble_eq_true rfl) (fun p e s m below meth c A ls C hK hA hP hD hS hl => k_T_remember_0 C hK hA xp gn gf hsn hsf hf hP hD hS (lv_sub hl [0] rfl))

abbrev wd_T_size (x u g hs t bw fw br fr ua : Nat) (cB cI cJ : ClassId) (xp : Int32) (un : Int32) : va_W := [(x, .inr (0, [.ref g, .ref u, .ref hs, .ref t, .ref bw, .ref fw, .ref br, .ref fr, .int xp])), (u, .inr (1, [.ref ua, .int un]))]
abbrev rm_T_size : Room := { frames := 1, cells := 0, slots := 0, locals := 20 }
section
variable {p : Program} {l : Launch} {e : Env} {s : State} {m : MethodId} {args : Array Value} {below : List Frame} {meth : Method} {c : Code} {dC : Nat → ClassId} {dI : Nat → Nat → Nat} {A : Nat → Prop} {cB cI cJ : ClassId} {H : Heap} {locs : List Loc} {ls : Array Slot} {N : Nat} {x u g hs t bw fw br fr ua : Nat}
noncomputable def j_T_size_0 (un : Int32)  : Option (Int32) :=
  bd1 (f_Row_count un) (fun r4 => (some r4 : Option (Int32)))
set_option maxHeartbeats 4000000 in
set_option maxRecDepth 100000 in
theorem k_T_size_0 {r_z : Int32} (C : Fx p s m args meth c cd_T_size 1 R_T lw_g (some .int)) (hK : va_K (dC, dI) vwCl [(cB, .byte), (cI, .int), (cJ, .long)] s) (hA : ∀ q, s.heap.size ≤ q → A q) (xp : Int32) (un : Int32)  (hf : j_T_size_0 un  = some r_z) (hP : va_P (dC, dI) vwCl (wd_T_size x u g hs t bw fw br fr ua cB cI cJ xp un) H) (hD : va_D A (wd_T_size x u g hs t bw fw br fr ua cB cI cJ xp un)) (hS : va_S A s.heap H locs) (hl : lv_has ls 1 [(0, .ref x)]) : W p l e rm_T_size s m args below meth c H locs 0 0 (MQ below (sQi (dC, dI) vwCl [(cB, .byte), (cI, .int), (cJ, .long)] A r_z (wd_T_size x u g hs t bw fw br fr ua cB cI cJ xp un)) args s 0 0 A) (F0 m 0 ls []) := by
  obtain ⟨hx, hb, hml, hown, hts, hr, hlocks, hZ⟩ := id C
  unfold j_T_size_0 at hf
  refine lv_aload_n hx hb d_T_size_0 rfl (lv_at hl 0 rfl) ?_
  refine va_get (D := (dC, dI)) (ci := 0) (v := .ref u) (C := R_T) (T := T_T) (N := 9) hx hb hts w_7 hown hK hP 0 rfl rfl 1 (by decide) (hts _ w_34) (fun _ h9 => h9) rfl d_T_size_1 ?_
  obtain ⟨r4, hc4, hf⟩ := bd1_some hf
  refine s_Vi (As := []) (rest := []) (wr := [(x, .inr (0, [.ref g, .ref u, .ref hs, .ref t, .ref bw, .ref fw, .ref br, .ref fr, .int xp]))]) (ws' := wd_T_size x u g hs t bw fw br fr ua cB cI cJ xp un) C.call (c_Row_count l dC dI cB cI cJ u ua  un  hc4) (cwV 0 hts (gd_V w_9 w_10 w_11 w_12 w_13) rfl rfl rfl ⟨rfl, hd_Row_count⟩ ⟨Nat.le_of_ble_eq_true rfl, Nat.le_of_ble_eq_true rfl⟩) rfl hl.1 rfl (Nat.le_of_ble_eq_true rfl) d_T_size_4 ⟨Nat.le_of_ble_eq_true rfl, Nat.le_of_ble_eq_true rfl⟩ hZ hK hP hD hS hA 1 1 rfl rfl [1] [0] [0, 1] rfl rfl rfl rfl (by decide) rfl rfl (fun H locs hP hD hS => ?_)
  cases hf
  exact s_iret hx hb hr hlocks hP hK hD hS d_T_size_7
end
noncomputable abbrev f_T_size (un : Int32) : Option (Int32) := j_T_size_0 un
set_option maxRecDepth 100000 in
theorem c_T_size (l : Launch) (dC : Nat → ClassId) (dI : Nat → Nat → Nat) (cB cI cJ : ClassId) (x u g hs t bw fw br fr ua : Nat) (xp : Int32) (un : Int32)  {r_z : Int32} (hf : f_T_size un = some r_z) : MetI l y_T_size ws_T_size rm_T_size (dC, dI) vwCl [(cB, .byte), (cI, .int), (cJ, .long)] [.ref x] (wd_T_size x u g hs t bw fw br fr ua cB cI cJ xp un) r_z (wd_T_size x u g hs t bw fw br fr ua cB cI cJ xp un) 0 0 :=
  s_ofi (bytes := cd_T_size) (maxL := 1) (ret := (some .int)) (by decide) rfl (Nat.le_of_ble_eq_true rfl) (fun p e s m below meth c A ls C hK hA hP hD hS hl => k_T_size_0 C hK hA xp un hf hP hD hS (lv_sub hl [0] rfl))

abbrev wd_T_sum (x g ga u hs t bw fw br fr : Nat) (cB cI cJ : ClassId) (xp : Int32) (gn : Int32) (gf : Nat → Int32) : va_W := [(x, .inr (0, [.ref g, .ref u, .ref hs, .ref t, .ref bw, .ref fw, .ref br, .ref fr, .int xp])), (g, .inr (1, [.ref ga, .int gn])), (ga, .inl (cB, 8000, .inl gf))]
abbrev rm_T_sum : Room := { frames := 4, cells := 0, slots := 0, locals := 94 }
section
variable {p : Program} {l : Launch} {e : Env} {s : State} {m : MethodId} {args : Array Value} {below : List Frame} {meth : Method} {c : Code} {dC : Nat → ClassId} {dI : Nat → Nat → Nat} {A : Nat → Prop} {cB cI cJ : ClassId} {H : Heap} {locs : List Loc} {ls : Array Slot} {N : Nat} {x g ga u hs t bw fw br fr : Nat}
noncomputable def j_T_sum_0 (N : Nat) (gn : Int32) (gf : Nat → Int32)  : Option (Int32) :=
  bd1 (f_Row_count gn) (fun r9 => bd1 (f_Sum_of N 8000 (0 : Int32) r9 gn gf) (fun r12 => (some r12 : Option (Int32))))
set_option maxHeartbeats 4000000 in
set_option maxRecDepth 100000 in
theorem k_T_sum_0 {r_z : Int32} (C : Fx p s m args meth c cd_T_sum 1 R_T lw_g (some .int)) (hK : va_K (dC, dI) vwCl [(cB, .byte), (cI, .int), (cJ, .long)] s) (hA : ∀ q, s.heap.size ≤ q → A q) (xp : Int32) (gn : Int32) (gf : Nat → Int32)  (hf : j_T_sum_0 N gn gf  = some r_z) (hP : va_P (dC, dI) vwCl (wd_T_sum x g ga u hs t bw fw br fr cB cI cJ xp gn gf) H) (hD : va_D A (wd_T_sum x g ga u hs t bw fw br fr cB cI cJ xp gn gf)) (hS : va_S A s.heap H locs) (hl : lv_has ls 1 [(0, .ref x)]) : W p l e rm_T_sum s m args below meth c H locs 0 0 (MQ below (sQi (dC, dI) vwCl [(cB, .byte), (cI, .int), (cJ, .long)] A r_z (wd_T_sum x g ga u hs t bw fw br fr cB cI cJ xp gn gf)) args s 0 0 A) (F0 m 0 ls []) := by
  obtain ⟨hx, hb, hml, hown, hts, hr, hlocks, hZ⟩ := id C
  unfold j_T_sum_0 at hf
  refine lv_aload_n hx hb d_T_sum_0 rfl (lv_at hl 0 rfl) ?_
  refine va_get (D := (dC, dI)) (ci := 0) (v := .ref g) (C := R_T) (T := T_T) (N := 9) hx hb hts w_7 hown hK hP 0 rfl rfl 0 (by decide) (hts _ w_8) (fun _ h9 => h9) rfl d_T_sum_1 ?_
  refine lv_iconst (v := 0) hx hb d_T_sum_4 (by decide) ?_
  refine lv_aload_n hx hb d_T_sum_5 rfl (lv_at hl 0 rfl) ?_
  refine va_get (D := (dC, dI)) (ci := 0) (v := .ref g) (C := R_T) (T := T_T) (N := 9) hx hb hts w_7 hown hK hP 0 rfl rfl 0 (by decide) (hts _ w_8) (fun _ h9 => h9) rfl d_T_sum_6 ?_
  obtain ⟨r9, hc9, hf⟩ := bd1_some hf
  refine s_Vi (As := []) (rest := [.int (0 : Int32), .ref g]) (wr := [(x, .inr (0, [.ref g, .ref u, .ref hs, .ref t, .ref bw, .ref fw, .ref br, .ref fr, .int xp])), (ga, .inl (cB, 8000, .inl gf))]) (ws' := wd_T_sum x g ga u hs t bw fw br fr cB cI cJ xp gn gf) C.call (c_Row_count l dC dI cB cI cJ g ga  gn  hc9) (cwV 0 hts (gd_V w_9 w_10 w_11 w_12 w_13) rfl rfl rfl ⟨rfl, hd_Row_count⟩ ⟨Nat.le_of_ble_eq_true rfl, Nat.le_of_ble_eq_true rfl⟩) rfl hl.1 rfl (Nat.le_of_ble_eq_true rfl) d_T_sum_9 ⟨Nat.le_of_ble_eq_true rfl, Nat.le_of_ble_eq_true rfl⟩ hZ hK hP hD hS hA 1 1 rfl rfl [1] [0, 2] [0, 2, 1] rfl rfl rfl rfl (by decide) rfl rfl (fun H locs hP hD hS => ?_)
  obtain ⟨r12, hc12, hf⟩ := bd1_some hf
  refine s_Si (As := [.ref g, .int (0 : Int32), .int r9]) (rest := []) (wr := [(x, .inr (0, [.ref g, .ref u, .ref hs, .ref t, .ref bw, .ref fw, .ref br, .ref fr, .int xp]))]) (ws' := wd_T_sum x g ga u hs t bw fw br fr cB cI cJ xp gn gf) C.call (c_Sum_of l dC dI cB cI cJ g ga 8000 gn gf (0 : Int32) r9 hc12) (va_cwS 3 hts (gd_S w_225 w_175 w_149 w_176) rfl rfl rfl hd_Sum_of ⟨Nat.le_of_ble_eq_true rfl, Nat.le_of_ble_eq_true rfl⟩) rfl hl.1 rfl (Nat.le_of_ble_eq_true rfl) d_T_sum_12 ⟨Nat.le_of_ble_eq_true rfl, Nat.le_of_ble_eq_true rfl⟩ hZ hK hP hD hS hA [1, 2] [0] [0, 1, 2] rfl rfl rfl rfl (by decide) rfl rfl (fun H locs hP hD hS => ?_)
  cases hf
  exact s_iret hx hb hr hlocks hP hK hD hS d_T_sum_15
end
noncomputable abbrev f_T_sum (N : Nat) (gn : Int32) (gf : Nat → Int32) : Option (Int32) := j_T_sum_0 N gn gf
set_option maxRecDepth 100000 in
theorem c_T_sum {N : Nat} (l : Launch) (dC : Nat → ClassId) (dI : Nat → Nat → Nat) (cB cI cJ : ClassId) (x g ga u hs t bw fw br fr : Nat) (xp : Int32) (gn : Int32) (gf : Nat → Int32)  {r_z : Int32} (hf : f_T_sum N gn gf = some r_z) : MetI l y_T_sum ws_T_sum rm_T_sum (dC, dI) vwCl [(cB, .byte), (cI, .int), (cJ, .long)] [.ref x] (wd_T_sum x g ga u hs t bw fw br fr cB cI cJ xp gn gf) r_z (wd_T_sum x g ga u hs t bw fw br fr cB cI cJ xp gn gf) 0 0 :=
  s_ofi (bytes := cd_T_sum) (maxL := 1) (ret := (some .int)) (by decide) rfl (Nat.le_of_ble_eq_true rfl) (fun p e s m below meth c A ls C hK hA hP hD hS hl => k_T_sum_0 C hK hA xp gn gf hf hP hD hS (lv_sub hl [0] rfl))

abbrev wd_T_turn (x g ga u ua hs t bw fw br fr : Nat) (cB cI cJ : ClassId) (xp : Int32) (gn : Int32) (gf : Nat → Int32) (un : Int32) (uf : Nat → Int32) : va_W := [(x, .inr (0, [.ref g, .ref u, .ref hs, .ref t, .ref bw, .ref fw, .ref br, .ref fr, .int xp])), (g, .inr (1, [.ref ga, .int gn])), (ga, .inl (cB, 8000, .inl gf)), (u, .inr (1, [.ref ua, .int un])), (ua, .inl (cB, 8000, .inl uf))]
abbrev rm_T_turn : Room := { frames := 3, cells := 0, slots := 0, locals := 63 }
section
variable {p : Program} {l : Launch} {e : Env} {s : State} {m : MethodId} {args : Array Value} {below : List Frame} {meth : Method} {c : Code} {dC : Nat → ClassId} {dI : Nat → Nat → Nat} {A : Nat → Prop} {cB cI cJ : ClassId} {H : Heap} {locs : List Loc} {ls : Array Slot} {N : Nat} {x g ga u ua hs t bw fw br fr : Nat}
noncomputable def j_T_turn_0 (gn : Int32) (gf : Nat → Int32) (un : Int32) (uf : Nat → Int32)  : Option (Int32 × (Nat → Int32)) :=
  bd2 (f_Row_become 8000 8000 gn gf un uf) (fun gn_8 gf_8 => (some (gn_8, gf_8) : Option (Int32 × (Nat → Int32))))
set_option maxHeartbeats 4000000 in
set_option maxRecDepth 100000 in
theorem k_T_turn_0 {gn_z : Int32} {gf_z : Nat → Int32} (C : Fx p s m args meth c cd_T_turn 1 R_T lw_g none) (hK : va_K (dC, dI) vwCl [(cB, .byte), (cI, .int), (cJ, .long)] s) (hA : ∀ q, s.heap.size ≤ q → A q) (xp : Int32) (gn : Int32) (gf : Nat → Int32) (un : Int32) (uf : Nat → Int32)  (hf : j_T_turn_0 gn gf un uf  = some (gn_z, gf_z)) (hP : va_P (dC, dI) vwCl (wd_T_turn x g ga u ua hs t bw fw br fr cB cI cJ xp gn gf un uf) H) (hD : va_D A (wd_T_turn x g ga u ua hs t bw fw br fr cB cI cJ xp gn gf un uf)) (hS : va_S A s.heap H locs) (hl : lv_has ls 1 [(0, .ref x)]) : W p l e rm_T_turn s m args below meth c H locs 0 0 (MQ below (sQv (dC, dI) vwCl [(cB, .byte), (cI, .int), (cJ, .long)] A (wd_T_turn x g ga u ua hs t bw fw br fr cB cI cJ xp gn_z gf_z un uf)) args s 0 0 A) (F0 m 0 ls []) := by
  obtain ⟨hx, hb, hml, hown, hts, hr, hlocks, hZ⟩ := id C
  unfold j_T_turn_0 at hf
  refine lv_aload_n hx hb d_T_turn_0 rfl (lv_at hl 0 rfl) ?_
  refine va_get (D := (dC, dI)) (ci := 0) (v := .ref g) (C := R_T) (T := T_T) (N := 9) hx hb hts w_7 hown hK hP 0 rfl rfl 0 (by decide) (hts _ w_8) (fun _ h9 => h9) rfl d_T_turn_1 ?_
  refine lv_aload_n hx hb d_T_turn_4 rfl (lv_at hl 0 rfl) ?_
  refine va_get (D := (dC, dI)) (ci := 0) (v := .ref u) (C := R_T) (T := T_T) (N := 9) hx hb hts w_7 hown hK hP 0 rfl rfl 1 (by decide) (hts _ w_34) (fun _ h9 => h9) rfl d_T_turn_5 ?_
  obtain ⟨gn_8, gf_8, hc8, hf⟩ := bd2_some hf
  refine s_Vv (As := [.ref u]) (rest := []) (wr := [(x, .inr (0, [.ref g, .ref u, .ref hs, .ref t, .ref bw, .ref fw, .ref br, .ref fr, .int xp]))]) (ws' := wd_T_turn x g ga u ua hs t bw fw br fr cB cI cJ xp gn_8 gf_8 un uf) C.call (c_Row_become l dC dI cB cI cJ g ga u ua 8000 8000 gn gf un uf  hc8) (cwV 1 hts (gd_V w_36 w_37 w_38 w_12 w_39) rfl rfl rfl ⟨rfl, hd_Row_become⟩ ⟨Nat.le_of_ble_eq_true rfl, Nat.le_of_ble_eq_true rfl⟩) rfl hl.1 rfl (Nat.le_of_ble_eq_true rfl) d_T_turn_8 ⟨Nat.le_of_ble_eq_true rfl, Nat.le_of_ble_eq_true rfl⟩ hZ hK hP hD hS hA 1 1 rfl rfl [1, 2, 3, 4] [0] [0, 1, 2, 3, 4] rfl rfl rfl rfl (by decide) rfl rfl (fun H locs hP hD hS => ?_)
  cases hf
  exact s_vret hx hb hr hlocks hP hK hD hS d_T_turn_11
end
noncomputable abbrev f_T_turn (gn : Int32) (gf : Nat → Int32) (un : Int32) (uf : Nat → Int32) : Option (Int32 × (Nat → Int32)) := j_T_turn_0 gn gf un uf
set_option maxRecDepth 100000 in
theorem c_T_turn (l : Launch) (dC : Nat → ClassId) (dI : Nat → Nat → Nat) (cB cI cJ : ClassId) (x g ga u ua hs t bw fw br fr : Nat) (xp : Int32) (gn : Int32) (gf : Nat → Int32) (un : Int32) (uf : Nat → Int32)  {gn_z : Int32} {gf_z : Nat → Int32} (hf : f_T_turn gn gf un uf = some (gn_z, gf_z)) : MetV l y_T_turn ws_T_turn rm_T_turn (dC, dI) vwCl [(cB, .byte), (cI, .int), (cJ, .long)] [.ref x] (wd_T_turn x g ga u ua hs t bw fw br fr cB cI cJ xp gn gf un uf)  (wd_T_turn x g ga u ua hs t bw fw br fr cB cI cJ xp gn_z gf_z un uf) 0 0 :=
  s_ofv (bytes := cd_T_turn) (maxL := 1) (ret := none) (by decide) rfl (Nat.le_of_ble_eq_true rfl) (fun p e s m below meth c A ls C hK hA hP hD hS hl => k_T_turn_0 C hK hA xp gn gf un uf hf hP hD hS (lv_sub hl [0] rfl))

abbrev wd_T_unblock (x g ga u ua hs hsa t ta br bw fw fr : Nat) (cB cI cJ : ClassId) (xp : Int32) (gn : Int32) (gf : Nat → Int32) (un : Int32) (uf : Nat → Int32) (hsn : Int32) (hsf : Nat → Int32) (tn : Int32) (tf : Nat → Int32) (b_at : Int32) (b_end : Int32) (b_start : Int32) (b_most : Int32) (b_dist : Int32) (b_place : Int32) : va_W := [(x, .inr (0, [.ref g, .ref u, .ref hs, .ref t, .ref bw, .ref fw, .ref br, .ref fr, .int xp])), (g, .inr (1, [.ref ga, .int gn])), (ga, .inl (cB, 8000, .inl gf)), (u, .inr (1, [.ref ua, .int un])), (ua, .inl (cB, 8000, .inl uf)), (hs, .inr (1, [.ref hsa, .int hsn])), (hsa, .inl (cB, 8000, .inl hsf)), (t, .inr (1, [.ref ta, .int tn])), (ta, .inl (cB, 8000, .inl tf)), (br, .inr (5, [.ref g, .ref hs, .ref t, .int b_at, .int b_end, .int b_start, .int b_most, .int b_dist, .int b_place]))]
abbrev rm_T_unblock : Room := { frames := 4, cells := 0, slots := 0, locals := 92 }
section
variable {p : Program} {l : Launch} {e : Env} {s : State} {m : MethodId} {args : Array Value} {below : List Frame} {meth : Method} {c : Code} {dC : Nat → ClassId} {dI : Nat → Nat → Nat} {A : Nat → Prop} {cB cI cJ : ClassId} {H : Heap} {locs : List Loc} {ls : Array Slot} {N : Nat} {x g ga u ua hs hsa t ta br bw fw fr : Nat}
noncomputable def j_T_unblock_0 (N : Nat) (x1 : Int32) (xp : Int32) (gn : Int32) (gf : Nat → Int32) (un : Int32) (uf : Nat → Int32) (hsn : Int32) (hsf : Nat → Int32) (tn : Int32) (tf : Nat → Int32) (b_at : Int32) (b_end : Int32) (b_start : Int32) (b_most : Int32) (b_dist : Int32) (b_place : Int32)  : Option (Int32 × Int32 × Int32 × (Nat → Int32) × Int32 × (Nat → Int32) × Int32 × Int32 × Int32 × Int32 × Int32 × Int32) :=
  bd1 (f_T_isMost x1) (fun r1 => (if r1 = 0 then (some ((-4 : Int32), xp, un, uf, tn, tf, b_at, b_end, b_start, b_most, b_dist, b_place) : Option (Int32 × Int32 × Int32 × (Nat → Int32) × Int32 × (Nat → Int32) × Int32 × Int32 × Int32 × Int32 × Int32 × Int32)) else bd1 (f_Row_cutTo (0 : Int32) tn) (fun tn_15 => bd1 (f_Row_count gn) (fun r27 => bd9 (f_BR_read N (0 : Int32) r27 (0 : Int32) x1 b_dist b_place gn gf hsn hsf tn_15 tf) (fun r32 b_at_32 b_end_32 b_start_32 b_most_32 b_dist_32 b_place_32 tn_32 tf_32 => bd1 (f_BR_where b_place_32) (fun r41 => (if r32 = 0 then bd3 (f_T_keepDraft un uf tn_32 tf_32) (fun r52 un_52 uf_52 => (some (r52, r41, un_52, uf_52, tn_32, tf_32, b_at_32, b_end_32, b_start_32, b_most_32, b_dist_32, b_place_32) : Option (Int32 × Int32 × Int32 × (Nat → Int32) × Int32 × (Nat → Int32) × Int32 × Int32 × Int32 × Int32 × Int32 × Int32))) else (some ((-r32), r41, un, uf, tn_32, tf_32, b_at_32, b_end_32, b_start_32, b_most_32, b_dist_32, b_place_32) : Option (Int32 × Int32 × Int32 × (Nat → Int32) × Int32 × (Nat → Int32) × Int32 × Int32 × Int32 × Int32 × Int32 × Int32)))))))))
set_option maxHeartbeats 4000000 in
set_option maxRecDepth 100000 in
theorem k_T_unblock_0 {r_z : Int32} {xp_z : Int32} {un_z : Int32} {uf_z : Nat → Int32} {tn_z : Int32} {tf_z : Nat → Int32} {b_at_z : Int32} {b_end_z : Int32} {b_start_z : Int32} {b_most_z : Int32} {b_dist_z : Int32} {b_place_z : Int32} (C : Fx p s m args meth c cd_T_unblock 3 R_T lw_g (some .int)) (hK : va_K (dC, dI) vwCl [(cB, .byte), (cI, .int), (cJ, .long)] s) (hA : ∀ q, s.heap.size ≤ q → A q) (x1 : Int32) (xp : Int32) (gn : Int32) (gf : Nat → Int32) (un : Int32) (uf : Nat → Int32) (hsn : Int32) (hsf : Nat → Int32) (tn : Int32) (tf : Nat → Int32) (b_at : Int32) (b_end : Int32) (b_start : Int32) (b_most : Int32) (b_dist : Int32) (b_place : Int32)  (hf : j_T_unblock_0 N x1 xp gn gf un uf hsn hsf tn tf b_at b_end b_start b_most b_dist b_place  = some (r_z, xp_z, un_z, uf_z, tn_z, tf_z, b_at_z, b_end_z, b_start_z, b_most_z, b_dist_z, b_place_z)) (hP : va_P (dC, dI) vwCl (wd_T_unblock x g ga u ua hs hsa t ta br bw fw fr cB cI cJ xp gn gf un uf hsn hsf tn tf b_at b_end b_start b_most b_dist b_place) H) (hD : va_D A (wd_T_unblock x g ga u ua hs hsa t ta br bw fw fr cB cI cJ xp gn gf un uf hsn hsf tn tf b_at b_end b_start b_most b_dist b_place)) (hS : va_S A s.heap H locs) (hl : lv_has ls 3 [(0, .ref x), (1, .int x1)]) : W p l e rm_T_unblock s m args below meth c H locs 0 0 (MQ below (sQi (dC, dI) vwCl [(cB, .byte), (cI, .int), (cJ, .long)] A r_z (wd_T_unblock x g ga u ua hs hsa t ta br bw fw fr cB cI cJ xp_z gn gf un_z uf_z hsn hsf tn_z tf_z b_at_z b_end_z b_start_z b_most_z b_dist_z b_place_z)) args s 0 0 A) (F0 m 0 ls []) := by
  obtain ⟨hx, hb, hml, hown, hts, hr, hlocks, hZ⟩ := id C
  unfold j_T_unblock_0 at hf
  refine lv_iload_n hx hb d_T_unblock_0 rfl (lv_at hl 1 rfl) ?_
  obtain ⟨r1, hc1, hf⟩ := bd1_some hf
  refine s_Si (As := [.int x1]) (rest := []) (wr := [(x, .inr (0, [.ref g, .ref u, .ref hs, .ref t, .ref bw, .ref fw, .ref br, .ref fr, .int xp])), (g, .inr (1, [.ref ga, .int gn])), (ga, .inl (cB, 8000, .inl gf)), (u, .inr (1, [.ref ua, .int un])), (ua, .inl (cB, 8000, .inl uf)), (hs, .inr (1, [.ref hsa, .int hsn])), (hsa, .inl (cB, 8000, .inl hsf)), (t, .inr (1, [.ref ta, .int tn])), (ta, .inl (cB, 8000, .inl tf)), (br, .inr (5, [.ref g, .ref hs, .ref t, .int b_at, .int b_end, .int b_start, .int b_most, .int b_dist, .int b_place]))]) (ws' := wd_T_unblock x g ga u ua hs hsa t ta br bw fw fr cB cI cJ xp gn gf un uf hsn hsf tn tf b_at b_end b_start b_most b_dist b_place) C.call (c_T_isMost l dC dI cB cI cJ    x1 hc1) (va_cwS 1 hts (gd_S w_266 w_267 w_129 w_268) rfl rfl rfl hd_T_isMost ⟨Nat.le_of_ble_eq_true rfl, Nat.le_of_ble_eq_true rfl⟩) rfl hl.1 rfl (Nat.le_of_ble_eq_true rfl) d_T_unblock_1 ⟨Nat.le_of_ble_eq_true rfl, Nat.le_of_ble_eq_true rfl⟩ hZ hK hP hD hS hA [] [0, 1, 2, 3, 4, 5, 6, 7, 8, 9] [0, 1, 2, 3, 4, 5, 6, 7, 8, 9] rfl rfl rfl rfl (by decide) rfl rfl (fun H locs hP hD hS => ?_)
  refine lv_if_ne (tgt := 10) hx hb d_T_unblock_4 (by decide) (fun c_4 => ?_) (fun c_4 => ?_)
  · have hf := br_neg c_4 hf
    refine lv_aload_n hx hb d_T_unblock_10 rfl (lv_at hl 0 rfl) ?_
    refine va_get (D := (dC, dI)) (ci := 0) (v := .ref t) (C := R_T) (T := T_T) (N := 9) hx hb hts w_7 hown hK hP 0 rfl rfl 3 (by decide) (hts _ w_35) (fun _ h9 => h9) rfl d_T_unblock_11 ?_
    refine lv_iconst (v := 0) hx hb d_T_unblock_14 (by decide) ?_
    obtain ⟨tn_15, hc15, hf⟩ := bd1_some hf
    refine s_Vv (As := [.int (0 : Int32)]) (rest := []) (wr := [(x, .inr (0, [.ref g, .ref u, .ref hs, .ref t, .ref bw, .ref fw, .ref br, .ref fr, .int xp])), (g, .inr (1, [.ref ga, .int gn])), (ga, .inl (cB, 8000, .inl gf)), (u, .inr (1, [.ref ua, .int un])), (ua, .inl (cB, 8000, .inl uf)), (hs, .inr (1, [.ref hsa, .int hsn])), (hsa, .inl (cB, 8000, .inl hsf)), (ta, .inl (cB, 8000, .inl tf)), (br, .inr (5, [.ref g, .ref hs, .ref t, .int b_at, .int b_end, .int b_start, .int b_most, .int b_dist, .int b_place]))]) (ws' := wd_T_unblock x g ga u ua hs hsa t ta br bw fw fr cB cI cJ xp gn gf un uf hsn hsf tn_15 tf b_at b_end b_start b_most b_dist b_place) C.call (c_Row_cutTo l dC dI cB cI cJ t ta  tn (0 : Int32) hc15) (cwV 1 hts (gd_V w_131 w_30 w_31 w_12 w_32) rfl rfl rfl ⟨rfl, hd_Row_cutTo⟩ ⟨Nat.le_of_ble_eq_true rfl, Nat.le_of_ble_eq_true rfl⟩) rfl hl.1 rfl (Nat.le_of_ble_eq_true rfl) d_T_unblock_15 ⟨Nat.le_of_ble_eq_true rfl, Nat.le_of_ble_eq_true rfl⟩ hZ hK hP hD hS hA 1 7 rfl rfl [7] [0, 1, 2, 3, 4, 5, 6, 8, 9] [0, 1, 2, 3, 4, 5, 6, 9, 7, 8] rfl rfl rfl rfl (by decide) rfl rfl (fun H locs hP hD hS => ?_)
    refine lv_aload_n hx hb d_T_unblock_18 rfl (lv_at hl 0 rfl) ?_
    refine va_get (D := (dC, dI)) (ci := 0) (v := .ref br) (C := R_T) (T := T_T) (N := 9) hx hb hts w_7 hown hK hP 0 rfl rfl 6 (by decide) (hts _ w_269) (fun _ h9 => h9) rfl d_T_unblock_19 ?_
    refine lv_iconst (v := 0) hx hb d_T_unblock_22 (by decide) ?_
    refine lv_aload_n hx hb d_T_unblock_23 rfl (lv_at hl 0 rfl) ?_
    refine va_get (D := (dC, dI)) (ci := 0) (v := .ref g) (C := R_T) (T := T_T) (N := 9) hx hb hts w_7 hown hK hP 0 rfl rfl 0 (by decide) (hts _ w_8) (fun _ h9 => h9) rfl d_T_unblock_24 ?_
    obtain ⟨r27, hc27, hf⟩ := bd1_some hf
    refine s_Vi (As := []) (rest := [.int (0 : Int32), .ref br]) (wr := [(x, .inr (0, [.ref g, .ref u, .ref hs, .ref t, .ref bw, .ref fw, .ref br, .ref fr, .int xp])), (ga, .inl (cB, 8000, .inl gf)), (u, .inr (1, [.ref ua, .int un])), (ua, .inl (cB, 8000, .inl uf)), (hs, .inr (1, [.ref hsa, .int hsn])), (hsa, .inl (cB, 8000, .inl hsf)), (t, .inr (1, [.ref ta, .int tn_15])), (ta, .inl (cB, 8000, .inl tf)), (br, .inr (5, [.ref g, .ref hs, .ref t, .int b_at, .int b_end, .int b_start, .int b_most, .int b_dist, .int b_place]))]) (ws' := wd_T_unblock x g ga u ua hs hsa t ta br bw fw fr cB cI cJ xp gn gf un uf hsn hsf tn_15 tf b_at b_end b_start b_most b_dist b_place) C.call (c_Row_count l dC dI cB cI cJ g ga  gn  hc27) (cwV 0 hts (gd_V w_9 w_10 w_11 w_12 w_13) rfl rfl rfl ⟨rfl, hd_Row_count⟩ ⟨Nat.le_of_ble_eq_true rfl, Nat.le_of_ble_eq_true rfl⟩) rfl hl.1 rfl (Nat.le_of_ble_eq_true rfl) d_T_unblock_27 ⟨Nat.le_of_ble_eq_true rfl, Nat.le_of_ble_eq_true rfl⟩ hZ hK hP hD hS hA 1 1 rfl rfl [1] [0, 2, 3, 4, 5, 6, 7, 8, 9] [0, 9, 1, 2, 3, 4, 5, 6, 7, 8] rfl rfl rfl rfl (by decide) rfl rfl (fun H locs hP hD hS => ?_)
    refine lv_iconst (v := 0) hx hb d_T_unblock_30 (by decide) ?_
    refine lv_iload_n hx hb d_T_unblock_31 rfl (lv_at hl 1 rfl) ?_
    obtain ⟨r32, b_at_32, b_end_32, b_start_32, b_most_32, b_dist_32, b_place_32, tn_32, tf_32, hc32, hf⟩ := bd9_some hf
    refine s_Vi (As := [.int (0 : Int32), .int r27, .int (0 : Int32), .int x1]) (rest := []) (wr := [(x, .inr (0, [.ref g, .ref u, .ref hs, .ref t, .ref bw, .ref fw, .ref br, .ref fr, .int xp])), (u, .inr (1, [.ref ua, .int un])), (ua, .inl (cB, 8000, .inl uf))]) (ws' := wd_T_unblock x g ga u ua hs hsa t ta br bw fw fr cB cI cJ xp gn gf un uf hsn hsf tn_32 tf_32 b_at_32 b_end_32 b_start_32 b_most_32 b_dist_32 b_place_32) C.call (c_BR_read l dC dI cB cI cJ br g ga hs hsa t ta  b_at b_end b_start b_most b_dist b_place gn gf hsn hsf tn_15 tf (0 : Int32) r27 (0 : Int32) x1 hc32) (cwV 4 hts (gd_V w_270 w_271 w_272 w_242 w_273) rfl rfl rfl ⟨rfl, hd_BR_read⟩ ⟨Nat.le_of_ble_eq_true rfl, Nat.le_of_ble_eq_true rfl⟩) rfl hl.1 rfl (Nat.le_of_ble_eq_true rfl) d_T_unblock_32 ⟨Nat.le_of_ble_eq_true rfl, Nat.le_of_ble_eq_true rfl⟩ hZ hK hP hD hS hA 5 9 rfl rfl [9, 1, 2, 5, 6, 7, 8] [0, 3, 4] [0, 4, 5, 1, 2, 6, 7, 8, 9, 3] rfl rfl rfl rfl (by decide) rfl rfl (fun H locs hP hD hS => ?_)
    refine lv_istore_n (lv' := [(2, .int r32), (0, .ref x), (1, .int x1)]) hx hb d_T_unblock_35 rfl hl (by decide) rfl (fun ls hl => ?_)
    refine lv_aload_n hx hb d_T_unblock_36 rfl (lv_at hl 1 rfl) ?_
    refine lv_aload_n hx hb d_T_unblock_37 rfl (lv_at hl 1 rfl) ?_
    refine va_get (D := (dC, dI)) (ci := 0) (v := .ref br) (C := R_T) (T := T_T) (N := 9) hx hb hts w_7 hown hK hP 0 rfl rfl 6 (by decide) (hts _ w_269) (fun _ h9 => h9) rfl d_T_unblock_38 ?_
    obtain ⟨r41, hc41, hf⟩ := bd1_some hf
    refine s_Vi (As := []) (rest := [.ref x]) (wr := [(x, .inr (0, [.ref g, .ref u, .ref hs, .ref t, .ref bw, .ref fw, .ref br, .ref fr, .int xp])), (g, .inr (1, [.ref ga, .int gn])), (ga, .inl (cB, 8000, .inl gf)), (u, .inr (1, [.ref ua, .int un])), (ua, .inl (cB, 8000, .inl uf)), (hs, .inr (1, [.ref hsa, .int hsn])), (hsa, .inl (cB, 8000, .inl hsf)), (t, .inr (1, [.ref ta, .int tn_32])), (ta, .inl (cB, 8000, .inl tf_32))]) (ws' := wd_T_unblock x g ga u ua hs hsa t ta br bw fw fr cB cI cJ xp gn gf un uf hsn hsf tn_32 tf_32 b_at_32 b_end_32 b_start_32 b_most_32 b_dist_32 b_place_32) C.call (c_BR_where l dC dI cB cI cJ br g hs t  b_at_32 b_end_32 b_start_32 b_most_32 b_dist_32 b_place_32  hc41) (cwV 0 hts (gd_V w_274 w_275 w_276 w_242 w_277) rfl rfl rfl ⟨rfl, hd_BR_where⟩ ⟨Nat.le_of_ble_eq_true rfl, Nat.le_of_ble_eq_true rfl⟩) rfl hl.1 rfl (Nat.le_of_ble_eq_true rfl) d_T_unblock_41 ⟨Nat.le_of_ble_eq_true rfl, Nat.le_of_ble_eq_true rfl⟩ hZ hK hP hD hS hA 5 9 rfl rfl [9] [0, 1, 2, 3, 4, 5, 6, 7, 8] [0, 1, 2, 3, 4, 5, 6, 7, 8, 9] rfl rfl rfl rfl (by decide) rfl rfl (fun H locs hP hD hS => ?_)
    refine va_put (D := (dC, dI)) (ci := 0) (v := .int r41) (ty := .int) (C := R_T) (T := T_T) (N := 9) hx hb hts w_7 ty_T ty_T_ok nm_T hown hK hP hD hS 0 rfl rfl 8 (by decide) (hts _ w_223) (fun _ h9 => h9) rfl (by decide +kernel) rfl rfl (Nat.le_of_ble_eq_true rfl) d_T_unblock_44 (fun H locs hP hD hS => ?_)
    have hP : va_P (dC, dI) vwCl (wd_T_unblock x g ga u ua hs hsa t ta br bw fw fr cB cI cJ r41 gn gf un uf hsn hsf tn_32 tf_32 b_at_32 b_end_32 b_start_32 b_most_32 b_dist_32 b_place_32) H := hP
    have hD : va_D A (wd_T_unblock x g ga u ua hs hsa t ta br bw fw fr cB cI cJ r41 gn gf un uf hsn hsf tn_32 tf_32 b_at_32 b_end_32 b_start_32 b_most_32 b_dist_32 b_place_32) := hD
    refine lv_iload_n hx hb d_T_unblock_47 rfl (lv_at hl 0 rfl) ?_
    refine lv_if_ne (tgt := 58) hx hb d_T_unblock_48 (by decide) (fun c_48 => ?_) (fun c_48 => ?_)
    · have hf := br_neg c_48 hf
      refine lv_iload_n hx hb d_T_unblock_58 rfl (lv_at hl 0 rfl) ?_
      refine lv_ineg hx hb d_T_unblock_59 ?_
      cases hf
      exact s_iret hx hb hr hlocks hP hK hD hS d_T_unblock_60
    · have hf := br_pos c_48 hf
      refine lv_aload_n hx hb d_T_unblock_51 rfl (lv_at hl 1 rfl) ?_
      obtain ⟨r52, un_52, uf_52, hc52, hf⟩ := bd3_some hf
      refine s_Vi (As := []) (rest := []) (wr := [(g, .inr (1, [.ref ga, .int gn])), (ga, .inl (cB, 8000, .inl gf)), (hs, .inr (1, [.ref hsa, .int hsn])), (hsa, .inl (cB, 8000, .inl hsf)), (br, .inr (5, [.ref g, .ref hs, .ref t, .int b_at_32, .int b_end_32, .int b_start_32, .int b_most_32, .int b_dist_32, .int b_place_32]))]) (ws' := wd_T_unblock x g ga u ua hs hsa t ta br bw fw fr cB cI cJ r41 gn gf un_52 uf_52 hsn hsf tn_32 tf_32 b_at_32 b_end_32 b_start_32 b_most_32 b_dist_32 b_place_32) C.call (c_T_keepDraft l dC dI cB cI cJ x u ua t ta g hs bw fw br fr  r41 un uf tn_32 tf_32  hc52) (cwV 0 hts (gd_V w_141 w_142 w_143 w_129 w_144) rfl rfl rfl ⟨rfl, hd_T_keepDraft⟩ ⟨Nat.le_of_ble_eq_true rfl, Nat.le_of_ble_eq_true rfl⟩) rfl hl.1 rfl (Nat.le_of_ble_eq_true rfl) d_T_unblock_52 ⟨Nat.le_of_ble_eq_true rfl, Nat.le_of_ble_eq_true rfl⟩ hZ hK hP hD hS hA 0 0 rfl rfl [0, 3, 4, 7, 8] [1, 2, 5, 6, 9] [5, 0, 1, 6, 7, 2, 3, 8, 9, 4] rfl rfl rfl rfl (by decide) rfl rfl (fun H locs hP hD hS => ?_)
      refine lv_goto (tgt := 60) hx hb d_T_unblock_55 (by decide) ?_
      cases hf
      exact s_iret hx hb hr hlocks hP hK hD hS d_T_unblock_60
  · have hf := br_pos c_4 hf
    refine lv_bipush (v := -4) hx hb d_T_unblock_7 (by decide) ?_
    cases hf
    exact s_iret hx hb hr hlocks hP hK hD hS d_T_unblock_9
end
noncomputable abbrev f_T_unblock (N : Nat) (x1 : Int32) (xp : Int32) (gn : Int32) (gf : Nat → Int32) (un : Int32) (uf : Nat → Int32) (hsn : Int32) (hsf : Nat → Int32) (tn : Int32) (tf : Nat → Int32) (b_at : Int32) (b_end : Int32) (b_start : Int32) (b_most : Int32) (b_dist : Int32) (b_place : Int32) : Option (Int32 × Int32 × Int32 × (Nat → Int32) × Int32 × (Nat → Int32) × Int32 × Int32 × Int32 × Int32 × Int32 × Int32) := j_T_unblock_0 N x1 xp gn gf un uf hsn hsf tn tf b_at b_end b_start b_most b_dist b_place
set_option maxRecDepth 100000 in
theorem c_T_unblock {N : Nat} (l : Launch) (dC : Nat → ClassId) (dI : Nat → Nat → Nat) (cB cI cJ : ClassId) (x g ga u ua hs hsa t ta br bw fw fr : Nat) (xp : Int32) (gn : Int32) (gf : Nat → Int32) (un : Int32) (uf : Nat → Int32) (hsn : Int32) (hsf : Nat → Int32) (tn : Int32) (tf : Nat → Int32) (b_at : Int32) (b_end : Int32) (b_start : Int32) (b_most : Int32) (b_dist : Int32) (b_place : Int32) (x1 : Int32) {r_z : Int32} {xp_z : Int32} {un_z : Int32} {uf_z : Nat → Int32} {tn_z : Int32} {tf_z : Nat → Int32} {b_at_z : Int32} {b_end_z : Int32} {b_start_z : Int32} {b_most_z : Int32} {b_dist_z : Int32} {b_place_z : Int32} (hf : f_T_unblock N x1 xp gn gf un uf hsn hsf tn tf b_at b_end b_start b_most b_dist b_place = some (r_z, xp_z, un_z, uf_z, tn_z, tf_z, b_at_z, b_end_z, b_start_z, b_most_z, b_dist_z, b_place_z)) : MetI l y_T_unblock ws_T_unblock rm_T_unblock (dC, dI) vwCl [(cB, .byte), (cI, .int), (cJ, .long)] [.ref x, .int x1] (wd_T_unblock x g ga u ua hs hsa t ta br bw fw fr cB cI cJ xp gn gf un uf hsn hsf tn tf b_at b_end b_start b_most b_dist b_place) r_z (wd_T_unblock x g ga u ua hs hsa t ta br bw fw fr cB cI cJ xp_z gn gf un_z uf_z hsn hsf tn_z tf_z b_at_z b_end_z b_start_z b_most_z b_dist_z b_place_z) 0 0 :=
  s_ofi (bytes := cd_T_unblock) (maxL := 3) (ret := (some .int)) (by decide) rfl (Nat.le_of_ble_eq_true rfl) (fun p e s m below meth c A ls C hK hA hP hD hS hl => k_T_unblock_0 C hK hA x1 xp gn gf un uf hsn hsf tn tf b_at b_end b_start b_most b_dist b_place hf hP hD hS (lv_sub hl [0, 1] rfl))

abbrev wd_T_unframe (x g ga u ua hs hsa t ta br fr bw fw : Nat) (cB cI cJ : ClassId) (xp : Int32) (gn : Int32) (gf : Nat → Int32) (un : Int32) (uf : Nat → Int32) (hsn : Int32) (hsf : Nat → Int32) (tn : Int32) (tf : Nat → Int32) (b_at : Int32) (b_end : Int32) (b_start : Int32) (b_most : Int32) (b_dist : Int32) (b_place : Int32) (q_at : Int32) (q_most : Int32) (q_flags : Int32) (q_great : Int32) (q_sizeAt : Int32) (q_start : Int32) (q_place : Int32) : va_W := [(x, .inr (0, [.ref g, .ref u, .ref hs, .ref t, .ref bw, .ref fw, .ref br, .ref fr, .int xp])), (g, .inr (1, [.ref ga, .int gn])), (ga, .inl (cB, 8000, .inl gf)), (u, .inr (1, [.ref ua, .int un])), (ua, .inl (cB, 8000, .inl uf)), (hs, .inr (1, [.ref hsa, .int hsn])), (hsa, .inl (cB, 8000, .inl hsf)), (t, .inr (1, [.ref ta, .int tn])), (ta, .inl (cB, 8000, .inl tf)), (br, .inr (5, [.ref g, .ref hs, .ref t, .int b_at, .int b_end, .int b_start, .int b_most, .int b_dist, .int b_place])), (fr, .inr (6, [.ref g, .ref t, .ref br, .int q_at, .int q_most, .int q_flags, .int q_great, .int q_sizeAt, .int q_start, .int q_place]))]
abbrev rm_T_unframe : Room := { frames := 7, cells := 0, slots := 0, locals := 168 }
section
variable {p : Program} {l : Launch} {e : Env} {s : State} {m : MethodId} {args : Array Value} {below : List Frame} {meth : Method} {c : Code} {dC : Nat → ClassId} {dI : Nat → Nat → Nat} {A : Nat → Prop} {cB cI cJ : ClassId} {H : Heap} {locs : List Loc} {ls : Array Slot} {N : Nat} {x g ga u ua hs hsa t ta br fr bw fw : Nat}
noncomputable def j_T_unframe_0 (N : Nat) (x1 : Int32) (xp : Int32) (gn : Int32) (gf : Nat → Int32) (un : Int32) (uf : Nat → Int32) (hsn : Int32) (hsf : Nat → Int32) (tn : Int32) (tf : Nat → Int32) (b_at : Int32) (b_end : Int32) (b_start : Int32) (b_most : Int32) (b_dist : Int32) (b_place : Int32) (q_at : Int32) (q_most : Int32) (q_flags : Int32) (q_great : Int32) (q_sizeAt : Int32) (q_start : Int32) (q_place : Int32)  : Option (Int32 × Int32 × Int32 × (Nat → Int32) × Int32 × (Nat → Int32) × Int32 × Int32 × Int32 × Int32 × Int32 × Int32 × Int32 × Int32 × Int32 × Int32 × Int32 × Int32 × Int32) :=
  bd1 (f_T_isMost x1) (fun r1 => (if r1 = 0 then (some ((-12 : Int32), xp, un, uf, tn, tf, b_at, b_end, b_start, b_most, b_dist, b_place, q_at, q_most, q_flags, q_great, q_sizeAt, q_start, q_place) : Option (Int32 × Int32 × Int32 × (Nat → Int32) × Int32 × (Nat → Int32) × Int32 × Int32 × Int32 × Int32 × Int32 × Int32 × Int32 × Int32 × Int32 × Int32 × Int32 × Int32 × Int32)) else bd1 (f_Row_cutTo (0 : Int32) tn) (fun tn_15 => bd16 (f_FR_readFrames N x1 q_flags q_great q_sizeAt q_start q_place b_at b_end b_start b_most b_dist b_place gn gf hsn hsf tn_15 tf) (fun r23 q_at_23 q_most_23 q_flags_23 q_great_23 q_sizeAt_23 q_start_23 q_place_23 b_at_23 b_end_23 b_start_23 b_most_23 b_dist_23 b_place_23 tn_23 tf_23 => bd1 (f_FR_where q_place_23) (fun r32 => (if r23 = 0 then bd3 (f_T_keepDraft un uf tn_23 tf_23) (fun r43 un_43 uf_43 => (some (r43, r32, un_43, uf_43, tn_23, tf_23, b_at_23, b_end_23, b_start_23, b_most_23, b_dist_23, b_place_23, q_at_23, q_most_23, q_flags_23, q_great_23, q_sizeAt_23, q_start_23, q_place_23) : Option (Int32 × Int32 × Int32 × (Nat → Int32) × Int32 × (Nat → Int32) × Int32 × Int32 × Int32 × Int32 × Int32 × Int32 × Int32 × Int32 × Int32 × Int32 × Int32 × Int32 × Int32))) else (some ((-r23), r32, un, uf, tn_23, tf_23, b_at_23, b_end_23, b_start_23, b_most_23, b_dist_23, b_place_23, q_at_23, q_most_23, q_flags_23, q_great_23, q_sizeAt_23, q_start_23, q_place_23) : Option (Int32 × Int32 × Int32 × (Nat → Int32) × Int32 × (Nat → Int32) × Int32 × Int32 × Int32 × Int32 × Int32 × Int32 × Int32 × Int32 × Int32 × Int32 × Int32 × Int32 × Int32))))))))
set_option maxHeartbeats 4000000 in
set_option maxRecDepth 100000 in
theorem k_T_unframe_0 {r_z : Int32} {xp_z : Int32} {un_z : Int32} {uf_z : Nat → Int32} {tn_z : Int32} {tf_z : Nat → Int32} {b_at_z : Int32} {b_end_z : Int32} {b_start_z : Int32} {b_most_z : Int32} {b_dist_z : Int32} {b_place_z : Int32} {q_at_z : Int32} {q_most_z : Int32} {q_flags_z : Int32} {q_great_z : Int32} {q_sizeAt_z : Int32} {q_start_z : Int32} {q_place_z : Int32} (C : Fx p s m args meth c cd_T_unframe 3 R_T lw_g (some .int)) (hK : va_K (dC, dI) vwCl [(cB, .byte), (cI, .int), (cJ, .long)] s) (hA : ∀ q, s.heap.size ≤ q → A q) (x1 : Int32) (xp : Int32) (gn : Int32) (gf : Nat → Int32) (un : Int32) (uf : Nat → Int32) (hsn : Int32) (hsf : Nat → Int32) (tn : Int32) (tf : Nat → Int32) (b_at : Int32) (b_end : Int32) (b_start : Int32) (b_most : Int32) (b_dist : Int32) (b_place : Int32) (q_at : Int32) (q_most : Int32) (q_flags : Int32) (q_great : Int32) (q_sizeAt : Int32) (q_start : Int32) (q_place : Int32)  (hf : j_T_unframe_0 N x1 xp gn gf un uf hsn hsf tn tf b_at b_end b_start b_most b_dist b_place q_at q_most q_flags q_great q_sizeAt q_start q_place  = some (r_z, xp_z, un_z, uf_z, tn_z, tf_z, b_at_z, b_end_z, b_start_z, b_most_z, b_dist_z, b_place_z, q_at_z, q_most_z, q_flags_z, q_great_z, q_sizeAt_z, q_start_z, q_place_z)) (hP : va_P (dC, dI) vwCl (wd_T_unframe x g ga u ua hs hsa t ta br fr bw fw cB cI cJ xp gn gf un uf hsn hsf tn tf b_at b_end b_start b_most b_dist b_place q_at q_most q_flags q_great q_sizeAt q_start q_place) H) (hD : va_D A (wd_T_unframe x g ga u ua hs hsa t ta br fr bw fw cB cI cJ xp gn gf un uf hsn hsf tn tf b_at b_end b_start b_most b_dist b_place q_at q_most q_flags q_great q_sizeAt q_start q_place)) (hS : va_S A s.heap H locs) (hl : lv_has ls 3 [(0, .ref x), (1, .int x1)]) : W p l e rm_T_unframe s m args below meth c H locs 0 0 (MQ below (sQi (dC, dI) vwCl [(cB, .byte), (cI, .int), (cJ, .long)] A r_z (wd_T_unframe x g ga u ua hs hsa t ta br fr bw fw cB cI cJ xp_z gn gf un_z uf_z hsn hsf tn_z tf_z b_at_z b_end_z b_start_z b_most_z b_dist_z b_place_z q_at_z q_most_z q_flags_z q_great_z q_sizeAt_z q_start_z q_place_z)) args s 0 0 A) (F0 m 0 ls []) := by
  obtain ⟨hx, hb, hml, hown, hts, hr, hlocks, hZ⟩ := id C
  unfold j_T_unframe_0 at hf
  refine lv_iload_n hx hb d_T_unframe_0 rfl (lv_at hl 1 rfl) ?_
  obtain ⟨r1, hc1, hf⟩ := bd1_some hf
  refine s_Si (As := [.int x1]) (rest := []) (wr := [(x, .inr (0, [.ref g, .ref u, .ref hs, .ref t, .ref bw, .ref fw, .ref br, .ref fr, .int xp])), (g, .inr (1, [.ref ga, .int gn])), (ga, .inl (cB, 8000, .inl gf)), (u, .inr (1, [.ref ua, .int un])), (ua, .inl (cB, 8000, .inl uf)), (hs, .inr (1, [.ref hsa, .int hsn])), (hsa, .inl (cB, 8000, .inl hsf)), (t, .inr (1, [.ref ta, .int tn])), (ta, .inl (cB, 8000, .inl tf)), (br, .inr (5, [.ref g, .ref hs, .ref t, .int b_at, .int b_end, .int b_start, .int b_most, .int b_dist, .int b_place])), (fr, .inr (6, [.ref g, .ref t, .ref br, .int q_at, .int q_most, .int q_flags, .int q_great, .int q_sizeAt, .int q_start, .int q_place]))]) (ws' := wd_T_unframe x g ga u ua hs hsa t ta br fr bw fw cB cI cJ xp gn gf un uf hsn hsf tn tf b_at b_end b_start b_most b_dist b_place q_at q_most q_flags q_great q_sizeAt q_start q_place) C.call (c_T_isMost l dC dI cB cI cJ    x1 hc1) (va_cwS 1 hts (gd_S w_266 w_267 w_129 w_268) rfl rfl rfl hd_T_isMost ⟨Nat.le_of_ble_eq_true rfl, Nat.le_of_ble_eq_true rfl⟩) rfl hl.1 rfl (Nat.le_of_ble_eq_true rfl) d_T_unframe_1 ⟨Nat.le_of_ble_eq_true rfl, Nat.le_of_ble_eq_true rfl⟩ hZ hK hP hD hS hA [] [0, 1, 2, 3, 4, 5, 6, 7, 8, 9, 10] [0, 1, 2, 3, 4, 5, 6, 7, 8, 9, 10] rfl rfl rfl rfl (by decide) rfl rfl (fun H locs hP hD hS => ?_)
  refine lv_if_ne (tgt := 10) hx hb d_T_unframe_4 (by decide) (fun c_4 => ?_) (fun c_4 => ?_)
  · have hf := br_neg c_4 hf
    refine lv_aload_n hx hb d_T_unframe_10 rfl (lv_at hl 0 rfl) ?_
    refine va_get (D := (dC, dI)) (ci := 0) (v := .ref t) (C := R_T) (T := T_T) (N := 9) hx hb hts w_7 hown hK hP 0 rfl rfl 3 (by decide) (hts _ w_35) (fun _ h9 => h9) rfl d_T_unframe_11 ?_
    refine lv_iconst (v := 0) hx hb d_T_unframe_14 (by decide) ?_
    obtain ⟨tn_15, hc15, hf⟩ := bd1_some hf
    refine s_Vv (As := [.int (0 : Int32)]) (rest := []) (wr := [(x, .inr (0, [.ref g, .ref u, .ref hs, .ref t, .ref bw, .ref fw, .ref br, .ref fr, .int xp])), (g, .inr (1, [.ref ga, .int gn])), (ga, .inl (cB, 8000, .inl gf)), (u, .inr (1, [.ref ua, .int un])), (ua, .inl (cB, 8000, .inl uf)), (hs, .inr (1, [.ref hsa, .int hsn])), (hsa, .inl (cB, 8000, .inl hsf)), (ta, .inl (cB, 8000, .inl tf)), (br, .inr (5, [.ref g, .ref hs, .ref t, .int b_at, .int b_end, .int b_start, .int b_most, .int b_dist, .int b_place])), (fr, .inr (6, [.ref g, .ref t, .ref br, .int q_at, .int q_most, .int q_flags, .int q_great, .int q_sizeAt, .int q_start, .int q_place]))]) (ws' := wd_T_unframe x g ga u ua hs hsa t ta br fr bw fw cB cI cJ xp gn gf un uf hsn hsf tn_15 tf b_at b_end b_start b_most b_dist b_place q_at q_most q_flags q_great q_sizeAt q_start q_place) C.call (c_Row_cutTo l dC dI cB cI cJ t ta  tn (0 : Int32) hc15) (cwV 1 hts (gd_V w_131 w_30 w_31 w_12 w_32) rfl rfl rfl ⟨rfl, hd_Row_cutTo⟩ ⟨Nat.le_of_ble_eq_true rfl, Nat.le_of_ble_eq_true rfl⟩) rfl hl.1 rfl (Nat.le_of_ble_eq_true rfl) d_T_unframe_15 ⟨Nat.le_of_ble_eq_true rfl, Nat.le_of_ble_eq_true rfl⟩ hZ hK hP hD hS hA 1 7 rfl rfl [7] [0, 1, 2, 3, 4, 5, 6, 8, 9, 10] [0, 1, 2, 3, 4, 5, 6, 10, 7, 8, 9] rfl rfl rfl rfl (by decide) rfl rfl (fun H locs hP hD hS => ?_)
    refine lv_aload_n hx hb d_T_unframe_18 rfl (lv_at hl 0 rfl) ?_
    refine va_get (D := (dC, dI)) (ci := 0) (v := .ref fr) (C := R_T) (T := T_T) (N := 9) hx hb hts w_7 hown hK hP 0 rfl rfl 7 (by decide) (hts _ w_349) (fun _ h9 => h9) rfl d_T_unframe_19 ?_
    refine lv_iload_n hx hb d_T_unframe_22 rfl (lv_at hl 1 rfl) ?_
    obtain ⟨r23, q_at_23, q_most_23, q_flags_23, q_great_23, q_sizeAt_23, q_start_23, q_place_23, b_at_23, b_end_23, b_start_23, b_most_23, b_dist_23, b_place_23, tn_23, tf_23, hc23, hf⟩ := bd16_some hf
    refine s_Vi (As := [.int x1]) (rest := []) (wr := [(x, .inr (0, [.ref g, .ref u, .ref hs, .ref t, .ref bw, .ref fw, .ref br, .ref fr, .int xp])), (u, .inr (1, [.ref ua, .int un])), (ua, .inl (cB, 8000, .inl uf))]) (ws' := wd_T_unframe x g ga u ua hs hsa t ta br fr bw fw cB cI cJ xp gn gf un uf hsn hsf tn_23 tf_23 b_at_23 b_end_23 b_start_23 b_most_23 b_dist_23 b_place_23 q_at_23 q_most_23 q_flags_23 q_great_23 q_sizeAt_23 q_start_23 q_place_23) C.call (c_FR_readFrames l dC dI cB cI cJ fr br g ga hs hsa t ta  q_at q_most q_flags q_great q_sizeAt q_start q_place b_at b_end b_start b_most b_dist b_place gn gf hsn hsf tn_15 tf x1 hc23) (cwV 1 hts (gd_V w_350 w_351 w_352 w_285 w_353) rfl rfl rfl ⟨rfl, hd_FR_readFrames⟩ ⟨Nat.le_of_ble_eq_true rfl, Nat.le_of_ble_eq_true rfl⟩) rfl hl.1 rfl (Nat.le_of_ble_eq_true rfl) d_T_unframe_23 ⟨Nat.le_of_ble_eq_true rfl, Nat.le_of_ble_eq_true rfl⟩ hZ hK hP hD hS hA 6 10 rfl rfl [10, 9, 1, 2, 5, 6, 7, 8] [0, 3, 4] [0, 5, 6, 1, 2, 7, 8, 9, 10, 4, 3] rfl rfl rfl rfl (by decide) rfl rfl (fun H locs hP hD hS => ?_)
    refine lv_istore_n (lv' := [(2, .int r23), (0, .ref x), (1, .int x1)]) hx hb d_T_unframe_26 rfl hl (by decide) rfl (fun ls hl => ?_)
    refine lv_aload_n hx hb d_T_unframe_27 rfl (lv_at hl 1 rfl) ?_
    refine lv_aload_n hx hb d_T_unframe_28 rfl (lv_at hl 1 rfl) ?_
    refine va_get (D := (dC, dI)) (ci := 0) (v := .ref fr) (C := R_T) (T := T_T) (N := 9) hx hb hts w_7 hown hK hP 0 rfl rfl 7 (by decide) (hts _ w_349) (fun _ h9 => h9) rfl d_T_unframe_29 ?_
    obtain ⟨r32, hc32, hf⟩ := bd1_some hf
    refine s_Vi (As := []) (rest := [.ref x]) (wr := [(x, .inr (0, [.ref g, .ref u, .ref hs, .ref t, .ref bw, .ref fw, .ref br, .ref fr, .int xp])), (g, .inr (1, [.ref ga, .int gn])), (ga, .inl (cB, 8000, .inl gf)), (u, .inr (1, [.ref ua, .int un])), (ua, .inl (cB, 8000, .inl uf)), (hs, .inr (1, [.ref hsa, .int hsn])), (hsa, .inl (cB, 8000, .inl hsf)), (t, .inr (1, [.ref ta, .int tn_23])), (ta, .inl (cB, 8000, .inl tf_23)), (br, .inr (5, [.ref g, .ref hs, .ref t, .int b_at_23, .int b_end_23, .int b_start_23, .int b_most_23, .int b_dist_23, .int b_place_23]))]) (ws' := wd_T_unframe x g ga u ua hs hsa t ta br fr bw fw cB cI cJ xp gn gf un uf hsn hsf tn_23 tf_23 b_at_23 b_end_23 b_start_23 b_most_23 b_dist_23 b_place_23 q_at_23 q_most_23 q_flags_23 q_great_23 q_sizeAt_23 q_start_23 q_place_23) C.call (c_FR_where l dC dI cB cI cJ fr g t br  q_at_23 q_most_23 q_flags_23 q_great_23 q_sizeAt_23 q_start_23 q_place_23  hc32) (cwV 0 hts (gd_V w_354 w_355 w_356 w_285 w_357) rfl rfl rfl ⟨rfl, hd_FR_where⟩ ⟨Nat.le_of_ble_eq_true rfl, Nat.le_of_ble_eq_true rfl⟩) rfl hl.1 rfl (Nat.le_of_ble_eq_true rfl) d_T_unframe_32 ⟨Nat.le_of_ble_eq_true rfl, Nat.le_of_ble_eq_true rfl⟩ hZ hK hP hD hS hA 6 10 rfl rfl [10] [0, 1, 2, 3, 4, 5, 6, 7, 8, 9] [0, 1, 2, 3, 4, 5, 6, 7, 8, 9, 10] rfl rfl rfl rfl (by decide) rfl rfl (fun H locs hP hD hS => ?_)
    refine va_put (D := (dC, dI)) (ci := 0) (v := .int r32) (ty := .int) (C := R_T) (T := T_T) (N := 9) hx hb hts w_7 ty_T ty_T_ok nm_T hown hK hP hD hS 0 rfl rfl 8 (by decide) (hts _ w_223) (fun _ h9 => h9) rfl (by decide +kernel) rfl rfl (Nat.le_of_ble_eq_true rfl) d_T_unframe_35 (fun H locs hP hD hS => ?_)
    have hP : va_P (dC, dI) vwCl (wd_T_unframe x g ga u ua hs hsa t ta br fr bw fw cB cI cJ r32 gn gf un uf hsn hsf tn_23 tf_23 b_at_23 b_end_23 b_start_23 b_most_23 b_dist_23 b_place_23 q_at_23 q_most_23 q_flags_23 q_great_23 q_sizeAt_23 q_start_23 q_place_23) H := hP
    have hD : va_D A (wd_T_unframe x g ga u ua hs hsa t ta br fr bw fw cB cI cJ r32 gn gf un uf hsn hsf tn_23 tf_23 b_at_23 b_end_23 b_start_23 b_most_23 b_dist_23 b_place_23 q_at_23 q_most_23 q_flags_23 q_great_23 q_sizeAt_23 q_start_23 q_place_23) := hD
    refine lv_iload_n hx hb d_T_unframe_38 rfl (lv_at hl 0 rfl) ?_
    refine lv_if_ne (tgt := 49) hx hb d_T_unframe_39 (by decide) (fun c_39 => ?_) (fun c_39 => ?_)
    · have hf := br_neg c_39 hf
      refine lv_iload_n hx hb d_T_unframe_49 rfl (lv_at hl 0 rfl) ?_
      refine lv_ineg hx hb d_T_unframe_50 ?_
      cases hf
      exact s_iret hx hb hr hlocks hP hK hD hS d_T_unframe_51
    · have hf := br_pos c_39 hf
      refine lv_aload_n hx hb d_T_unframe_42 rfl (lv_at hl 1 rfl) ?_
      obtain ⟨r43, un_43, uf_43, hc43, hf⟩ := bd3_some hf
      refine s_Vi (As := []) (rest := []) (wr := [(g, .inr (1, [.ref ga, .int gn])), (ga, .inl (cB, 8000, .inl gf)), (hs, .inr (1, [.ref hsa, .int hsn])), (hsa, .inl (cB, 8000, .inl hsf)), (br, .inr (5, [.ref g, .ref hs, .ref t, .int b_at_23, .int b_end_23, .int b_start_23, .int b_most_23, .int b_dist_23, .int b_place_23])), (fr, .inr (6, [.ref g, .ref t, .ref br, .int q_at_23, .int q_most_23, .int q_flags_23, .int q_great_23, .int q_sizeAt_23, .int q_start_23, .int q_place_23]))]) (ws' := wd_T_unframe x g ga u ua hs hsa t ta br fr bw fw cB cI cJ r32 gn gf un_43 uf_43 hsn hsf tn_23 tf_23 b_at_23 b_end_23 b_start_23 b_most_23 b_dist_23 b_place_23 q_at_23 q_most_23 q_flags_23 q_great_23 q_sizeAt_23 q_start_23 q_place_23) C.call (c_T_keepDraft l dC dI cB cI cJ x u ua t ta g hs bw fw br fr  r32 un uf tn_23 tf_23  hc43) (cwV 0 hts (gd_V w_141 w_142 w_143 w_129 w_144) rfl rfl rfl ⟨rfl, hd_T_keepDraft⟩ ⟨Nat.le_of_ble_eq_true rfl, Nat.le_of_ble_eq_true rfl⟩) rfl hl.1 rfl (Nat.le_of_ble_eq_true rfl) d_T_unframe_43 ⟨Nat.le_of_ble_eq_true rfl, Nat.le_of_ble_eq_true rfl⟩ hZ hK hP hD hS hA 0 0 rfl rfl [0, 3, 4, 7, 8] [1, 2, 5, 6, 9, 10] [6, 0, 1, 7, 8, 2, 3, 9, 10, 4, 5] rfl rfl rfl rfl (by decide) rfl rfl (fun H locs hP hD hS => ?_)
      refine lv_goto (tgt := 51) hx hb d_T_unframe_46 (by decide) ?_
      cases hf
      exact s_iret hx hb hr hlocks hP hK hD hS d_T_unframe_51
  · have hf := br_pos c_4 hf
    refine lv_bipush (v := -12) hx hb d_T_unframe_7 (by decide) ?_
    cases hf
    exact s_iret hx hb hr hlocks hP hK hD hS d_T_unframe_9
end
noncomputable abbrev f_T_unframe (N : Nat) (x1 : Int32) (xp : Int32) (gn : Int32) (gf : Nat → Int32) (un : Int32) (uf : Nat → Int32) (hsn : Int32) (hsf : Nat → Int32) (tn : Int32) (tf : Nat → Int32) (b_at : Int32) (b_end : Int32) (b_start : Int32) (b_most : Int32) (b_dist : Int32) (b_place : Int32) (q_at : Int32) (q_most : Int32) (q_flags : Int32) (q_great : Int32) (q_sizeAt : Int32) (q_start : Int32) (q_place : Int32) : Option (Int32 × Int32 × Int32 × (Nat → Int32) × Int32 × (Nat → Int32) × Int32 × Int32 × Int32 × Int32 × Int32 × Int32 × Int32 × Int32 × Int32 × Int32 × Int32 × Int32 × Int32) := j_T_unframe_0 N x1 xp gn gf un uf hsn hsf tn tf b_at b_end b_start b_most b_dist b_place q_at q_most q_flags q_great q_sizeAt q_start q_place
set_option maxRecDepth 100000 in
theorem c_T_unframe {N : Nat} (l : Launch) (dC : Nat → ClassId) (dI : Nat → Nat → Nat) (cB cI cJ : ClassId) (x g ga u ua hs hsa t ta br fr bw fw : Nat) (xp : Int32) (gn : Int32) (gf : Nat → Int32) (un : Int32) (uf : Nat → Int32) (hsn : Int32) (hsf : Nat → Int32) (tn : Int32) (tf : Nat → Int32) (b_at : Int32) (b_end : Int32) (b_start : Int32) (b_most : Int32) (b_dist : Int32) (b_place : Int32) (q_at : Int32) (q_most : Int32) (q_flags : Int32) (q_great : Int32) (q_sizeAt : Int32) (q_start : Int32) (q_place : Int32) (x1 : Int32) {r_z : Int32} {xp_z : Int32} {un_z : Int32} {uf_z : Nat → Int32} {tn_z : Int32} {tf_z : Nat → Int32} {b_at_z : Int32} {b_end_z : Int32} {b_start_z : Int32} {b_most_z : Int32} {b_dist_z : Int32} {b_place_z : Int32} {q_at_z : Int32} {q_most_z : Int32} {q_flags_z : Int32} {q_great_z : Int32} {q_sizeAt_z : Int32} {q_start_z : Int32} {q_place_z : Int32} (hf : f_T_unframe N x1 xp gn gf un uf hsn hsf tn tf b_at b_end b_start b_most b_dist b_place q_at q_most q_flags q_great q_sizeAt q_start q_place = some (r_z, xp_z, un_z, uf_z, tn_z, tf_z, b_at_z, b_end_z, b_start_z, b_most_z, b_dist_z, b_place_z, q_at_z, q_most_z, q_flags_z, q_great_z, q_sizeAt_z, q_start_z, q_place_z)) : MetI l y_T_unframe ws_T_unframe rm_T_unframe (dC, dI) vwCl [(cB, .byte), (cI, .int), (cJ, .long)] [.ref x, .int x1] (wd_T_unframe x g ga u ua hs hsa t ta br fr bw fw cB cI cJ xp gn gf un uf hsn hsf tn tf b_at b_end b_start b_most b_dist b_place q_at q_most q_flags q_great q_sizeAt q_start q_place) r_z (wd_T_unframe x g ga u ua hs hsa t ta br fr bw fw cB cI cJ xp_z gn gf un_z uf_z hsn hsf tn_z tf_z b_at_z b_end_z b_start_z b_most_z b_dist_z b_place_z q_at_z q_most_z q_flags_z q_great_z q_sizeAt_z q_start_z q_place_z) 0 0 :=
  s_ofi (bytes := cd_T_unframe) (maxL := 3) (ret := (some .int)) (by decide) rfl (Nat.le_of_ble_eq_true rfl) (fun p e s m below meth c A ls C hK hA hP hD hS hl => k_T_unframe_0 C hK hA x1 xp gn gf un uf hsn hsf tn tf b_at b_end b_start b_most b_dist b_place q_at q_most q_flags q_great q_sizeAt q_start q_place hf hP hD hS (lv_sub hl [0, 1] rfl))

abbrev wd_T_write (x g ga u hs t bw fw br fr : Nat) (cB cI cJ : ClassId) (xp : Int32) (gn : Int32) (gf : Nat → Int32) : va_W := [(x, .inr (0, [.ref g, .ref u, .ref hs, .ref t, .ref bw, .ref fw, .ref br, .ref fr, .int xp])), (g, .inr (1, [.ref ga, .int gn])), (ga, .inl (cB, 8000, .inl gf))]
abbrev rm_T_write : Room := { frames := 1, cells := 0, slots := 0, locals := 22 }
section
variable {p : Program} {l : Launch} {e : Env} {s : State} {m : MethodId} {args : Array Value} {below : List Frame} {meth : Method} {c : Code} {dC : Nat → ClassId} {dI : Nat → Nat → Nat} {A : Nat → Prop} {cB cI cJ : ClassId} {H : Heap} {locs : List Loc} {ls : Array Slot} {N : Nat} {x g ga u hs t bw fw br fr : Nat}
noncomputable def b_T_write_30 (x1 : Int64)  (kh30 : Int32 → Int32 → (Nat → Int32) → Option (Int32 × Int32 × (Nat → Int32))) (x4 : Int32) (gn : Int32) (gf : Nat → Int32) : Option (Int32 × Int32 × (Nat → Int32)) :=
  (if x4 < 0 then (some ((1 : Int32), gn, gf) : Option (Int32 × Int32 × (Nat → Int32))) else bd3 (f_Row_add 8000 ((us64 x1 ((8 : Int32) * x4)).toInt32) gn gf) (fun r47 gn_47 gf_47 => (kh30 (x4 + (-1)) gn_47 gf_47)))
set_option maxHeartbeats 4000000 in
set_option maxRecDepth 100000 in
theorem k_T_write_30 {r_z : Int32} {gn_z : Int32} {gf_z : Nat → Int32} (C : Fx p s m args meth c cd_T_write 5 R_T lw_g (some .boolean)) (hK : va_K (dC, dI) vwCl [(cB, .byte), (cI, .int), (cJ, .long)] s) (hA : ∀ q, s.heap.size ≤ q → A q) (x1 : Int64) (xp : Int32)  : ∀ (n : Nat) (x4 : Int32) (gn : Int32) (gf : Nat → Int32), loop3 (b_T_write_30 x1 ) n x4 gn gf = some (r_z, gn_z, gf_z) → ∀ (H : Heap) (locs : List Loc), va_P (dC, dI) vwCl (wd_T_write x g ga u hs t bw fw br fr cB cI cJ xp gn gf) H → va_D A (wd_T_write x g ga u hs t bw fw br fr cB cI cJ xp gn gf) → va_S A s.heap H locs → ∀ (ls : Array Slot), lv_has ls 5 [(0, .ref x), (1, .long x1), (4, .int x4)] → W p l e rm_T_write s m args below meth c H locs 0 0 (MQ below (sQi (dC, dI) vwCl [(cB, .byte), (cI, .int), (cJ, .long)] A r_z (wd_T_write x g ga u hs t bw fw br fr cB cI cJ xp gn_z gf_z)) args s 0 0 A) (F0 m 30 ls []) := by
  obtain ⟨hx, hb, hml, hown, hts, hr, hlocks, hZ⟩ := id C
  intro n
  induction n with
  | zero => intro x4 gn gf hf; cases hf
  | succ n ih30 =>
    intro x4 gn gf hf H locs hP hD hS ls hl
    have hf : b_T_write_30 x1  (loop3 (b_T_write_30 x1 ) n) x4 gn gf = some (r_z, gn_z, gf_z) := hf
    generalize loop3 (b_T_write_30 x1 ) n = kh30 at hf ih30
    unfold b_T_write_30 at hf
    refine lv_iload hx hb d_T_write_30 (lv_at hl 2 rfl) ?_
    refine lv_if_lt (tgt := 57) hx hb d_T_write_32 (by decide) (fun c_32 => ?_) (fun c_32 => ?_)
    · have hf := br_pos c_32 hf
      refine lv_iconst (v := 1) hx hb d_T_write_57 (by decide) ?_
      cases hf
      exact s_zret hx hb hr (by decide) hlocks hP hK hD hS d_T_write_58
    · have hf := br_neg c_32 hf
      refine lv_aload_n hx hb d_T_write_35 rfl (lv_at hl 0 rfl) ?_
      refine va_get (D := (dC, dI)) (ci := 0) (v := .ref g) (C := R_T) (T := T_T) (N := 9) hx hb hts w_7 hown hK hP 0 rfl rfl 0 (by decide) (hts _ w_8) (fun _ h9 => h9) rfl d_T_write_36 ?_
      refine lv_lload_n hx hb d_T_write_39 rfl (lv_at hl 1 rfl) ?_
      refine lv_bipush (v := 8) hx hb d_T_write_40 (by decide) ?_
      refine lv_iload hx hb d_T_write_42 (lv_at hl 2 rfl) ?_
      refine lv_imul hx hb d_T_write_44 ?_
      refine lv_lushr (v := (us64 x1 ((8 : Int32) * x4))) hx hb d_T_write_45 rfl ?_
      refine lv_l2i (v := ((us64 x1 ((8 : Int32) * x4)).toInt32)) hx hb d_T_write_46 rfl ?_
      obtain ⟨r47, gn_47, gf_47, hc47, hf⟩ := bd3_some hf
      refine s_Vi (As := [.int ((us64 x1 ((8 : Int32) * x4)).toInt32)]) (rest := []) (wr := [(x, .inr (0, [.ref g, .ref u, .ref hs, .ref t, .ref bw, .ref fw, .ref br, .ref fr, .int xp]))]) (ws' := wd_T_write x g ga u hs t bw fw br fr cB cI cJ xp gn_47 gf_47) C.call (c_Row_add l dC dI cB cI cJ g ga 8000 gn gf ((us64 x1 ((8 : Int32) * x4)).toInt32) hc47) (cwV 1 hts (gd_V w_358 w_41 w_42 w_12 w_43) rfl rfl rfl ⟨rfl, hd_Row_add⟩ ⟨Nat.le_of_ble_eq_true rfl, Nat.le_of_ble_eq_true rfl⟩) rfl hl.1 rfl (Nat.le_of_ble_eq_true rfl) d_T_write_47 ⟨Nat.le_of_ble_eq_true rfl, Nat.le_of_ble_eq_true rfl⟩ hZ hK hP hD hS hA 1 1 rfl rfl [1, 2] [0] [0, 1, 2] rfl rfl rfl rfl (by decide) rfl rfl (fun H locs hP hD hS => ?_)
      refine lv_pop hx hb d_T_write_50 rfl ?_
      refine lv_iinc (v := (x4 + (-1))) (lv' := [(4, .int (x4 + (-1))), (0, .ref x), (1, .long x1)]) hx hb d_T_write_51 hl (k := 2) rfl (congrArg (fun z => x4 + z) (by decide)) (by decide) rfl (fun ls hl => ?_)
      refine lv_goto (tgt := 30) hx hb d_T_write_54 (by decide) ?_
      exact ih30 (x4 + (-1)) gn_47 gf_47 hf _ _ hP hD hS _ (lv_sub hl [1, 2, 0] rfl)
noncomputable def j_T_write_0 (N : Nat) (x1 : Int64) (x3 : Int32) (gn : Int32) (gf : Nat → Int32)  : Option (Int32 × Int32 × (Nat → Int32)) :=
  (if x3 < (1 : Int32) then (some ((0 : Int32), gn, gf) : Option (Int32 × Int32 × (Nat → Int32))) else (if (8 : Int32) < x3 then (some ((0 : Int32), gn, gf) : Option (Int32 × Int32 × (Nat → Int32))) else bd1 (f_Row_hasRoomFor 8000 (x3.toInt64) gn) (fun r17 => (if r17 = 0 then (some ((0 : Int32), gn, gf) : Option (Int32 × Int32 × (Nat → Int32))) else (loop3 (b_T_write_30 x1 ) N (x3 - (1 : Int32)) gn gf)))))
set_option maxHeartbeats 4000000 in
set_option maxRecDepth 100000 in
theorem k_T_write_0 {r_z : Int32} {gn_z : Int32} {gf_z : Nat → Int32} (C : Fx p s m args meth c cd_T_write 5 R_T lw_g (some .boolean)) (hK : va_K (dC, dI) vwCl [(cB, .byte), (cI, .int), (cJ, .long)] s) (hA : ∀ q, s.heap.size ≤ q → A q) (x1 : Int64) (x3 : Int32) (xp : Int32) (gn : Int32) (gf : Nat → Int32)  (hf : j_T_write_0 N x1 x3 gn gf  = some (r_z, gn_z, gf_z)) (hP : va_P (dC, dI) vwCl (wd_T_write x g ga u hs t bw fw br fr cB cI cJ xp gn gf) H) (hD : va_D A (wd_T_write x g ga u hs t bw fw br fr cB cI cJ xp gn gf)) (hS : va_S A s.heap H locs) (hl : lv_has ls 5 [(0, .ref x), (1, .long x1), (3, .int x3)]) : W p l e rm_T_write s m args below meth c H locs 0 0 (MQ below (sQi (dC, dI) vwCl [(cB, .byte), (cI, .int), (cJ, .long)] A r_z (wd_T_write x g ga u hs t bw fw br fr cB cI cJ xp gn_z gf_z)) args s 0 0 A) (F0 m 0 ls []) := by
  obtain ⟨hx, hb, hml, hown, hts, hr, hlocks, hZ⟩ := id C
  unfold j_T_write_0 at hf
  refine lv_iload_n hx hb d_T_write_0 rfl (lv_at hl 2 rfl) ?_
  refine lv_iconst (v := 1) hx hb d_T_write_1 (by decide) ?_
  refine lv_icmp_lt (tgt := 23) hx hb d_T_write_2 (by decide) (fun c_2 => ?_) (fun c_2 => ?_)
  · have hf := br_pos c_2 hf
    refine lv_iconst (v := 0) hx hb d_T_write_23 (by decide) ?_
    cases hf
    exact s_zret hx hb hr (by decide) hlocks hP hK hD hS d_T_write_24
  · have hf := br_neg c_2 hf
    refine lv_iload_n hx hb d_T_write_5 rfl (lv_at hl 2 rfl) ?_
    refine lv_bipush (v := 8) hx hb d_T_write_6 (by decide) ?_
    refine lv_icmp_gt (tgt := 23) hx hb d_T_write_8 (by decide) (fun c_8 => ?_) (fun c_8 => ?_)
    · have hf := br_pos c_8 hf
      refine lv_iconst (v := 0) hx hb d_T_write_23 (by decide) ?_
      cases hf
      exact s_zret hx hb hr (by decide) hlocks hP hK hD hS d_T_write_24
    · have hf := br_neg c_8 hf
      refine lv_aload_n hx hb d_T_write_11 rfl (lv_at hl 0 rfl) ?_
      refine va_get (D := (dC, dI)) (ci := 0) (v := .ref g) (C := R_T) (T := T_T) (N := 9) hx hb hts w_7 hown hK hP 0 rfl rfl 0 (by decide) (hts _ w_8) (fun _ h9 => h9) rfl d_T_write_12 ?_
      refine lv_iload_n hx hb d_T_write_15 rfl (lv_at hl 2 rfl) ?_
      refine lv_i2l (v := (x3.toInt64)) hx hb d_T_write_16 rfl ?_
      obtain ⟨r17, hc17, hf⟩ := bd1_some hf
      refine s_Vi (As := [.long (x3.toInt64)]) (rest := []) (wr := [(x, .inr (0, [.ref g, .ref u, .ref hs, .ref t, .ref bw, .ref fw, .ref br, .ref fr, .int xp]))]) (ws' := wd_T_write x g ga u hs t bw fw br fr cB cI cJ xp gn gf) C.call (c_Row_hasRoomFor l dC dI cB cI cJ g ga 8000 gn gf (x3.toInt64) hc17) (cwV 1 hts (gd_V w_14 w_15 w_16 w_12 w_17) rfl rfl rfl ⟨rfl, hd_Row_hasRoomFor⟩ ⟨Nat.le_of_ble_eq_true rfl, Nat.le_of_ble_eq_true rfl⟩) rfl hl.1 rfl (Nat.le_of_ble_eq_true rfl) d_T_write_17 ⟨Nat.le_of_ble_eq_true rfl, Nat.le_of_ble_eq_true rfl⟩ hZ hK hP hD hS hA 1 1 rfl rfl [1, 2] [0] [0, 1, 2] rfl rfl rfl rfl (by decide) rfl rfl (fun H locs hP hD hS => ?_)
      refine lv_if_ne (tgt := 25) hx hb d_T_write_20 (by decide) (fun c_20 => ?_) (fun c_20 => ?_)
      · have hf := br_neg c_20 hf
        refine lv_iload_n hx hb d_T_write_25 rfl (lv_at hl 2 rfl) ?_
        refine lv_iconst (v := 1) hx hb d_T_write_26 (by decide) ?_
        refine lv_isub hx hb d_T_write_27 ?_
        refine lv_istore (lv' := [(4, .int (x3 - (1 : Int32))), (0, .ref x), (1, .long x1), (3, .int x3)]) hx hb d_T_write_28 hl (by decide) rfl (fun ls hl => ?_)
        exact k_T_write_30 C hK hA x1 xp  N (x3 - (1 : Int32)) gn gf hf _ _ hP hD hS _ (lv_sub hl [1, 2, 0] rfl)
      · have hf := br_pos c_20 hf
        refine lv_iconst (v := 0) hx hb d_T_write_23 (by decide) ?_
        cases hf
        exact s_zret hx hb hr (by decide) hlocks hP hK hD hS d_T_write_24
end
noncomputable abbrev f_T_write (N : Nat) (x1 : Int64) (x3 : Int32) (gn : Int32) (gf : Nat → Int32) : Option (Int32 × Int32 × (Nat → Int32)) := j_T_write_0 N x1 x3 gn gf
set_option maxRecDepth 100000 in
theorem c_T_write {N : Nat} (l : Launch) (dC : Nat → ClassId) (dI : Nat → Nat → Nat) (cB cI cJ : ClassId) (x g ga u hs t bw fw br fr : Nat) (xp : Int32) (gn : Int32) (gf : Nat → Int32) (x1 : Int64) (x3 : Int32) {r_z : Int32} {gn_z : Int32} {gf_z : Nat → Int32} (hf : f_T_write N x1 x3 gn gf = some (r_z, gn_z, gf_z)) : MetI l y_T_write ws_T_write rm_T_write (dC, dI) vwCl [(cB, .byte), (cI, .int), (cJ, .long)] [.ref x, .long x1, .int x3] (wd_T_write x g ga u hs t bw fw br fr cB cI cJ xp gn gf) r_z (wd_T_write x g ga u hs t bw fw br fr cB cI cJ xp gn_z gf_z) 0 0 :=
  s_ofi (bytes := cd_T_write) (maxL := 5) (ret := (some .boolean)) (by decide) rfl (Nat.le_of_ble_eq_true rfl) (fun p e s m below meth c A ls C hK hA hP hD hS hl => k_T_write_0 C hK hA x1 x3 xp gn gf hf hP hD hS (lv_sub hl [0, 1, 2] rfl))
