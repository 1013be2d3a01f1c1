abbrev wd_Row_add (r ra : Nat) (cB cI cJ : ClassId) (rL : Nat) (rn : Int32) (rf : Nat → Int32) : va_W := [(r, .inr (1, [.ref ra, .int rn])), (ra, .inl (cB, rL, .inl rf))]
abbrev rm_Row_add : Room := { frames := 0, cells := 0, slots := 0, locals := 0 }
section
variable {p : Program} {l : Launch} {e : Env} {s : State} {m : MethodId} {args : Array Value} {below : List Frame} {meth : Method} {c : Code} {dC : Nat → ClassId} {dI : Nat → Nat → Nat} {A : Nat → Prop} {cB cI cJ : ClassId} {H : Heap} {locs : List Loc} {ls : Array Slot} {N : Nat} {r ra rL : Nat}
noncomputable def j_Row_add_0 (rL : Nat) (x1 : Int32) (rn : Int32) (rf : Nat → Int32)  : Option (Int32 × Int32 × (Nat → Int32)) :=
  (if rn < 0 then (some ((0 : Int32), rn, rf) : Option (Int32 × Int32 × (Nat → Int32))) else (if rn < (Int32.ofNat rL) then as_ (vp_in rn rL) ((some ((1 : Int32), (rn + (1 : Int32)), (upd rf rn.toNatClampNeg (vp_nar .byte (x1.toInt8.toInt32)))) : Option (Int32 × Int32 × (Nat → Int32)))) else (some ((0 : Int32), rn, rf) : Option (Int32 × Int32 × (Nat → Int32)))))
set_option maxHeartbeats 4000000 in
set_option maxRecDepth 100000 in
theorem k_Row_add_0 {r_z : Int32} {rn_z : Int32} {rf_z : Nat → Int32} (C : Fx p s m args meth c cd_Row_add 2 R_Row lw_g (some .boolean)) (hK : va_K (dC, dI) vwCl [(cB, .byte), (cI, .int), (cJ, .long)] s) (hA : ∀ q, s.heap.size ≤ q → A q) (x1 : Int32) (rn : Int32) (rf : Nat → Int32)  (hf : j_Row_add_0 rL x1 rn rf  = some (r_z, rn_z, rf_z)) (hP : va_P (dC, dI) vwCl (wd_Row_add r ra cB cI cJ rL rn rf) H) (hD : va_D A (wd_Row_add r ra cB cI cJ rL rn rf)) (hS : va_S A s.heap H locs) (hl : lv_has ls 2 [(0, .ref r), (1, .int x1)]) : W p l e rm_Row_add s m args below meth c H locs 0 0 (MQ below (sQi (dC, dI) vwCl [(cB, .byte), (cI, .int), (cJ, .long)] A r_z (wd_Row_add r ra cB cI cJ rL rn_z rf_z)) args s 0 0 A) (F0 m 0 ls []) := by
  obtain ⟨hx, hb, hml, hown, hts, hr, hlocks, hZ⟩ := id C
  unfold j_Row_add_0 at hf
  refine lv_aload_n hx hb d_Row_add_0 rfl (lv_at hl 0 rfl) ?_
  refine va_get (D := (dC, dI)) (ci := 1) (v := .int rn) (C := R_Row) (T := T_Row) (N := 2) hx hb hts w_0 hown hK hP 0 rfl rfl 1 (by decide) (hts _ w_1) (fun _ h9 => h9) rfl d_Row_add_1 ?_
  refine lv_if_lt (tgt := 19) hx hb d_Row_add_4 (by decide) (fun c_4 => ?_) (fun c_4 => ?_)
  · have hf := br_pos c_4 hf
    refine lv_iconst (v := 0) hx hb d_Row_add_19 (by decide) ?_
    cases hf
    exact s_zret hx hb hr (by decide) hlocks hP hK hD hS d_Row_add_20
  · have hf := br_neg c_4 hf
    refine lv_aload_n hx hb d_Row_add_7 rfl (lv_at hl 0 rfl) ?_
    refine va_get (D := (dC, dI)) (ci := 1) (v := .int rn) (C := R_Row) (T := T_Row) (N := 2) hx hb hts w_0 hown hK hP 0 rfl rfl 1 (by decide) (hts _ w_1) (fun _ h9 => h9) rfl d_Row_add_8 ?_
    refine lv_aload_n hx hb d_Row_add_11 rfl (lv_at hl 0 rfl) ?_
    refine va_get (D := (dC, dI)) (ci := 1) (v := .ref ra) (C := R_Row) (T := T_Row) (N := 2) hx hb hts w_0 hown hK hP 0 rfl rfl 0 (by decide) (hts _ w_2) (fun _ h9 => h9) rfl d_Row_add_12 ?_
    refine va_alen (v := (Int32.ofNat rL)) hx hb hK hP 1 0 rfl rfl rfl d_Row_add_15 ?_
    refine lv_icmp_lt (tgt := 21) hx hb d_Row_add_16 (by decide) (fun c_16 => ?_) (fun c_16 => ?_)
    · have hf := br_pos c_16 hf
      refine lv_aload_n hx hb d_Row_add_21 rfl (lv_at hl 0 rfl) ?_
      refine va_get (D := (dC, dI)) (ci := 1) (v := .ref ra) (C := R_Row) (T := T_Row) (N := 2) hx hb hts w_0 hown hK hP 0 rfl rfl 0 (by decide) (hts _ w_2) (fun _ h9 => h9) rfl d_Row_add_22 ?_
      refine lv_aload_n hx hb d_Row_add_25 rfl (lv_at hl 0 rfl) ?_
      refine va_get (D := (dC, dI)) (ci := 1) (v := .int rn) (C := R_Row) (T := T_Row) (N := 2) hx hb hts w_0 hown hK hP 0 rfl rfl 1 (by decide) (hts _ w_1) (fun _ h9 => h9) rfl d_Row_add_26 ?_
      refine lv_iload_n hx hb d_Row_add_29 rfl (lv_at hl 1 rfl) ?_
      refine lv_i2b (v := (x1.toInt8.toInt32)) hx hb d_Row_add_30 rfl ?_
      obtain ⟨h_in, hf⟩ := as_some hf
      refine va_bast hx hb hK hP hD hS 1 0 rfl rfl h_in d_Row_add_31 (fun H locs hP hD hS => ?_)
      have hP : va_P (dC, dI) vwCl (wd_Row_add r ra cB cI cJ rL rn (upd rf rn.toNatClampNeg (vp_nar .byte (x1.toInt8.toInt32)))) H := hP
      have hD : va_D A (wd_Row_add r ra cB cI cJ rL rn (upd rf rn.toNatClampNeg (vp_nar .byte (x1.toInt8.toInt32)))) := hD
      refine lv_aload_n hx hb d_Row_add_32 rfl (lv_at hl 0 rfl) ?_
      refine lv_dup hx hb d_Row_add_33 rfl ?_
      refine va_get (D := (dC, dI)) (ci := 1) (v := .int rn) (C := R_Row) (T := T_Row) (N := 2) hx hb hts w_0 hown hK hP 0 rfl rfl 1 (by decide) (hts _ w_1) (fun _ h9 => h9) rfl d_Row_add_34 ?_
      refine lv_iconst (v := 1) hx hb d_Row_add_37 (by decide) ?_
      refine lv_iadd hx hb d_Row_add_38 ?_
      refine va_put (D := (dC, dI)) (ci := 1) (v := .int (rn + (1 : Int32))) (ty := .int) (C := R_Row) (T := T_Row) (N := 2) hx hb hts w_0 ty_Row ty_Row_ok nm_Row hown hK hP hD hS 0 rfl rfl 1 (by decide) (hts _ w_1) (fun _ h9 => h9) rfl (by decide +kernel) rfl rfl (Nat.le_of_ble_eq_true rfl) d_Row_add_39 (fun H locs hP hD hS => ?_)
      have hP : va_P (dC, dI) vwCl (wd_Row_add r ra cB cI cJ rL (rn + (1 : Int32)) (upd rf rn.toNatClampNeg (vp_nar .byte (x1.toInt8.toInt32)))) H := hP
      have hD : va_D A (wd_Row_add r ra cB cI cJ rL (rn + (1 : Int32)) (upd rf rn.toNatClampNeg (vp_nar .byte (x1.toInt8.toInt32)))) := hD
      refine lv_iconst (v := 1) hx hb d_Row_add_42 (by decide) ?_
      cases hf
      exact s_zret hx hb hr (by decide) hlocks hP hK hD hS d_Row_add_43
    · have hf := br_neg c_16 hf
      refine lv_iconst (v := 0) hx hb d_Row_add_19 (by decide) ?_
      cases hf
      exact s_zret hx hb hr (by decide) hlocks hP hK hD hS d_Row_add_20
end
noncomputable abbrev f_Row_add (rL : Nat) (x1 : Int32) (rn : Int32) (rf : Nat → Int32) : Option (Int32 × Int32 × (Nat → Int32)) := j_Row_add_0 rL x1 rn rf
set_option maxRecDepth 100000 in
theorem c_Row_add (l : Launch) (dC : Nat → ClassId) (dI : Nat → Nat → Nat) (cB cI cJ : ClassId) (r ra rL : Nat) (rn : Int32) (rf : Nat → Int32) (x1 : Int32) {r_z : Int32} {rn_z : Int32} {rf_z : Nat → Int32} (hf : f_Row_add rL x1 rn rf = some (r_z, rn_z, rf_z)) : MetI l y_Row_add ws_Row_add rm_Row_add (dC, dI) vwCl [(cB, .byte), (cI, .int), (cJ, .long)] [.ref r, .int x1] (wd_Row_add r ra cB cI cJ rL rn rf) r_z (wd_Row_add r ra cB cI cJ rL rn_z rf_z) 0 0 :=
  s_ofi (bytes := cd_Row_add) (maxL := 2) (ret := (some .boolean)) (by decide) rfl (Nat.le_of_ble_eq_true rfl) (fun p e s m below meth c A ls C hK hA hP hD hS hl => k_Row_add_0 C hK hA x1 rn rf hf hP hD hS (lv_sub hl [0, 1] rfl))
