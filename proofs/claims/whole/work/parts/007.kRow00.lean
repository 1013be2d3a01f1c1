abbrev wd_Row_addFrom (r ra o oa : Nat) (cB cI cJ : ClassId) (rL oL : Nat) (rn : Int32) (rf : Nat → Int32) (on : Int32) (of : Nat → Int32) : va_W := [(r, .inr (1, [.ref ra, .int rn])), (ra, .inl (cB, rL, .inl rf)), (o, .inr (1, [.ref oa, .int on])), (oa, .inl (cB, oL, .inl of))]
abbrev rm_Row_addFrom : Room := { frames := 1, cells := 0, slots := 0, locals := 18 }
section
variable {p : Program} {l : Launch} {e : Env} {s : State} {m : MethodId} {args : Array Value} {below : List Frame} {meth : Method} {c : Code} {dC : Nat → ClassId} {dI : Nat → Nat → Nat} {A : Nat → Prop} {cB cI cJ : ClassId} {H : Heap} {locs : List Loc} {ls : Array Slot} {N : Nat} {r ra o oa rL oL : Nat}
noncomputable def j_Row_addFrom_0 (rL : Nat) (oL : Nat) (x2 : Int32) (x3 : Int32) (rn : Int32) (rf : Nat → Int32) (on : Int32) (of : Nat → Int32)  : Option (Int32 × Int32 × (Nat → Int32)) :=
  (if x2 < 0 then (some ((0 : Int32), rn, rf) : Option (Int32 × Int32 × (Nat → Int32))) else (if (x3 - x2) < 0 then (some ((0 : Int32), rn, rf) : Option (Int32 × Int32 × (Nat → Int32))) else (if on < x3 then (some ((0 : Int32), rn, rf) : Option (Int32 × Int32 × (Nat → Int32))) else (if (x3 - x2) ≤ ((Int32.ofNat rL) - rn) then as_ ((¬ x2 < 0) ∧ (¬ rn < 0) ∧ (¬ (x3 - x2) < 0) ∧ (x2.toNatClampNeg + (x3 - x2).toNatClampNeg ≤ oL) ∧ (rn.toNatClampNeg + (x3 - x2).toNatClampNeg ≤ rL) ∧ (∀ i, i < (x3 - x2).toNatClampNeg → fits .byte (.int (of (x2.toNatClampNeg + i))) = true)) ((some ((1 : Int32), (rn + (x3 - x2)), (va_cpy of rf x2.toNatClampNeg rn.toNatClampNeg (x3 - x2).toNatClampNeg)) : Option (Int32 × Int32 × (Nat → Int32)))) else (some ((0 : Int32), rn, rf) : Option (Int32 × Int32 × (Nat → Int32)))))))
set_option maxHeartbeats 4000000 in
set_option maxRecDepth 100000 in
theorem k_Row_addFrom_0 {r_z : Int32} {rn_z : Int32} {rf_z : Nat → Int32} (C : Fx p s m args meth c cd_Row_addFrom 5 R_Row lw_g (some .boolean)) (hK : va_K (dC, dI) vwCl [(cB, .byte), (cI, .int), (cJ, .long)] s) (hA : ∀ q, s.heap.size ≤ q → A q) (x2 : Int32) (x3 : Int32) (rn : Int32) (rf : Nat → Int32) (on : Int32) (of : Nat → Int32)  (hf : j_Row_addFrom_0 rL oL x2 x3 rn rf on of  = some (r_z, rn_z, rf_z)) (hP : va_P (dC, dI) vwCl (wd_Row_addFrom r ra o oa cB cI cJ rL oL rn rf on of) H) (hD : va_D A (wd_Row_addFrom r ra o oa cB cI cJ rL oL rn rf on of)) (hS : va_S A s.heap H locs) (hl : lv_has ls 5 [(0, .ref r), (1, .ref o), (2, .int x2), (3, .int x3)]) : W p l e rm_Row_addFrom s m args below meth c H locs 0 0 (MQ below (sQi (dC, dI) vwCl [(cB, .byte), (cI, .int), (cJ, .long)] A r_z (wd_Row_addFrom r ra o oa cB cI cJ rL oL rn_z rf_z on of)) args s 0 0 A) (F0 m 0 ls []) := by
  obtain ⟨hx, hb, hml, hown, hts, hr, hlocks, hZ⟩ := id C
  unfold j_Row_addFrom_0 at hf
  refine lv_iload_n hx hb d_Row_addFrom_0 rfl (lv_at hl 3 rfl) ?_
  refine lv_iload_n hx hb d_Row_addFrom_1 rfl (lv_at hl 2 rfl) ?_
  refine lv_isub hx hb d_Row_addFrom_2 ?_
  refine lv_istore (lv' := [(4, .int (x3 - x2)), (0, .ref r), (1, .ref o), (2, .int x2), (3, .int x3)]) hx hb d_Row_addFrom_3 hl (by decide) rfl (fun ls hl => ?_)
  refine lv_iload_n hx hb d_Row_addFrom_5 rfl (lv_at hl 3 rfl) ?_
  refine lv_if_lt (tgt := 37) hx hb d_Row_addFrom_6 (by decide) (fun c_6 => ?_) (fun c_6 => ?_)
  · have hf := br_pos c_6 hf
    refine lv_iconst (v := 0) hx hb d_Row_addFrom_37 (by decide) ?_
    cases hf
    exact s_zret hx hb hr (by decide) hlocks hP hK hD hS d_Row_addFrom_38
  · have hf := br_neg c_6 hf
    refine lv_iload hx hb d_Row_addFrom_9 (lv_at hl 0 rfl) ?_
    refine lv_if_lt (tgt := 37) hx hb d_Row_addFrom_11 (by decide) (fun c_11 => ?_) (fun c_11 => ?_)
    · have hf := br_pos c_11 hf
      refine lv_iconst (v := 0) hx hb d_Row_addFrom_37 (by decide) ?_
      cases hf
      exact s_zret hx hb hr (by decide) hlocks hP hK hD hS d_Row_addFrom_38
    · have hf := br_neg c_11 hf
      refine lv_iload_n hx hb d_Row_addFrom_14 rfl (lv_at hl 4 rfl) ?_
      refine lv_aload_n hx hb d_Row_addFrom_15 rfl (lv_at hl 2 rfl) ?_
      refine va_get (D := (dC, dI)) (ci := 1) (v := .int on) (C := R_Row) (T := T_Row) (N := 2) hx hb hts w_0 hown hK hP 2 rfl rfl 1 (by decide) (hts _ w_1) (fun _ h9 => h9) rfl d_Row_addFrom_16 ?_
      refine lv_icmp_gt (tgt := 37) hx hb d_Row_addFrom_19 (by decide) (fun c_19 => ?_) (fun c_19 => ?_)
      · have hf := br_pos c_19 hf
        refine lv_iconst (v := 0) hx hb d_Row_addFrom_37 (by decide) ?_
        cases hf
        exact s_zret hx hb hr (by decide) hlocks hP hK hD hS d_Row_addFrom_38
      · have hf := br_neg c_19 hf
        refine lv_iload hx hb d_Row_addFrom_22 (lv_at hl 0 rfl) ?_
        refine lv_aload_n hx hb d_Row_addFrom_24 rfl (lv_at hl 1 rfl) ?_
        refine va_get (D := (dC, dI)) (ci := 1) (v := .ref ra) (C := R_Row) (T := T_Row) (N := 2) hx hb hts w_0 hown hK hP 0 rfl rfl 0 (by decide) (hts _ w_2) (fun _ h9 => h9) rfl d_Row_addFrom_25 ?_
        refine va_alen (v := (Int32.ofNat rL)) hx hb hK hP 1 0 rfl rfl rfl d_Row_addFrom_28 ?_
        refine lv_aload_n hx hb d_Row_addFrom_29 rfl (lv_at hl 1 rfl) ?_
        refine va_get (D := (dC, dI)) (ci := 1) (v := .int rn) (C := R_Row) (T := T_Row) (N := 2) hx hb hts w_0 hown hK hP 0 rfl rfl 1 (by decide) (hts _ w_1) (fun _ h9 => h9) rfl d_Row_addFrom_30 ?_
        refine lv_isub hx hb d_Row_addFrom_33 ?_
        refine lv_icmp_le (tgt := 39) hx hb d_Row_addFrom_34 (by decide) (fun c_34 => ?_) (fun c_34 => ?_)
        · have hf := br_pos c_34 hf
          refine lv_aload_n hx hb d_Row_addFrom_39 rfl (lv_at hl 2 rfl) ?_
          refine va_get (D := (dC, dI)) (ci := 1) (v := .ref oa) (C := R_Row) (T := T_Row) (N := 2) hx hb hts w_0 hown hK hP 2 rfl rfl 0 (by decide) (hts _ w_2) (fun _ h9 => h9) rfl d_Row_addFrom_40 ?_
          refine lv_iload_n hx hb d_Row_addFrom_43 rfl (lv_at hl 3 rfl) ?_
          refine lv_aload_n hx hb d_Row_addFrom_44 rfl (lv_at hl 1 rfl) ?_
          refine va_get (D := (dC, dI)) (ci := 1) (v := .ref ra) (C := R_Row) (T := T_Row) (N := 2) hx hb hts w_0 hown hK hP 0 rfl rfl 0 (by decide) (hts _ w_2) (fun _ h9 => h9) rfl d_Row_addFrom_45 ?_
          refine lv_aload_n hx hb d_Row_addFrom_48 rfl (lv_at hl 1 rfl) ?_
          refine va_get (D := (dC, dI)) (ci := 1) (v := .int rn) (C := R_Row) (T := T_Row) (N := 2) hx hb hts w_0 hown hK hP 0 rfl rfl 1 (by decide) (hts _ w_1) (fun _ h9 => h9) rfl d_Row_addFrom_49 ?_
          refine lv_iload hx hb d_Row_addFrom_52 (lv_at hl 0 rfl) ?_
          obtain ⟨⟨h1c, h2c, h3c, h4c, h5c, h6c⟩, hf⟩ := as_some hf
          refine va_copyi (ty := .byte) hx hb (hml.trans hl.1.symm) hown (hts _ w_3) (hts _ w_4) (hts _ w_5) (hts _ w_6) hK hP hD hS 3 1 0 0 rfl rfl rfl rfl rfl h1c h2c h3c h4c h5c h6c (Nat.le_of_ble_eq_true rfl) (by decide +kernel) d_Row_addFrom_54 (fun H locs hP hD hS => ?_)
          have hP : va_P (dC, dI) vwCl (wd_Row_addFrom r ra o oa cB cI cJ rL oL rn (va_cpy of rf x2.toNatClampNeg rn.toNatClampNeg (x3 - x2).toNatClampNeg) on of) H := hP
          have hD : va_D A (wd_Row_addFrom r ra o oa cB cI cJ rL oL rn (va_cpy of rf x2.toNatClampNeg rn.toNatClampNeg (x3 - x2).toNatClampNeg) on of) := hD
          refine lv_aload_n hx hb d_Row_addFrom_57 rfl (lv_at hl 1 rfl) ?_
          refine lv_dup hx hb d_Row_addFrom_58 rfl ?_
          refine va_get (D := (dC, dI)) (ci := 1) (v := .int rn) (C := R_Row) (T := T_Row) (N := 2) hx hb hts w_0 hown hK hP 0 rfl rfl 1 (by decide) (hts _ w_1) (fun _ h9 => h9) rfl d_Row_addFrom_59 ?_
          refine lv_iload hx hb d_Row_addFrom_62 (lv_at hl 0 rfl) ?_
          refine lv_iadd hx hb d_Row_addFrom_64 ?_
          refine va_put (D := (dC, dI)) (ci := 1) (v := .int (rn + (x3 - x2))) (ty := .int) (C := R_Row) (T := T_Row) (N := 2) hx hb hts w_0 ty_Row ty_Row_ok nm_Row hown hK hP hD hS 0 rfl rfl 1 (by decide) (hts _ w_1) (fun _ h9 => h9) rfl (by decide +kernel) rfl rfl (Nat.le_of_ble_eq_true rfl) d_Row_addFrom_65 (fun H locs hP hD hS => ?_)
          have hP : va_P (dC, dI) vwCl (wd_Row_addFrom r ra o oa cB cI cJ rL oL (rn + (x3 - x2)) (va_cpy of rf x2.toNatClampNeg rn.toNatClampNeg (x3 - x2).toNatClampNeg) on of) H := hP
          have hD : va_D A (wd_Row_addFrom r ra o oa cB cI cJ rL oL (rn + (x3 - x2)) (va_cpy of rf x2.toNatClampNeg rn.toNatClampNeg (x3 - x2).toNatClampNeg) on of) := hD
          refine lv_iconst (v := 1) hx hb d_Row_addFrom_68 (by decide) ?_
          cases hf
          exact s_zret hx hb hr (by decide) hlocks hP hK hD hS d_Row_addFrom_69
        · have hf := br_neg c_34 hf
          refine lv_iconst (v := 0) hx hb d_Row_addFrom_37 (by decide) ?_
          cases hf
          exact s_zret hx hb hr (by decide) hlocks hP hK hD hS d_Row_addFrom_38
end
noncomputable abbrev f_Row_addFrom (rL : Nat) (oL : Nat) (x2 : Int32) (x3 : Int32) (rn : Int32) (rf : Nat → Int32) (on : Int32) (of : Nat → Int32) : Option (Int32 × Int32 × (Nat → Int32)) := j_Row_addFrom_0 rL oL x2 x3 rn rf on of
set_option maxRecDepth 100000 in
theorem c_Row_addFrom (l : Launch) (dC : Nat → ClassId) (dI : Nat → Nat → Nat) (cB cI cJ : ClassId) (r ra o oa rL oL : Nat) (rn : Int32) (rf : Nat → Int32) (on : Int32) (of : Nat → Int32) (x2 : Int32) (x3 : Int32) {r_z : Int32} {rn_z : Int32} {rf_z : Nat → Int32} (hf : f_Row_addFrom rL oL x2 x3 rn rf on of = some (r_z, rn_z, rf_z)) : MetI l y_Row_addFrom ws_Row_addFrom rm_Row_addFrom (dC, dI) vwCl [(cB, .byte), (cI, .int), (cJ, .long)] [.ref r, .ref o, .int x2, .int x3] (wd_Row_addFrom r ra o oa cB cI cJ rL oL rn rf on of) r_z (wd_Row_addFrom r ra o oa cB cI cJ rL oL rn_z rf_z on of) 0 0 :=
  s_ofi (bytes := cd_Row_addFrom) (maxL := 5) (ret := (some .boolean)) (by decide) rfl (Nat.le_of_ble_eq_true rfl) (fun p e s m below meth c A ls C hK hA hP hD hS hl => k_Row_addFrom_0 C hK hA x2 x3 rn rf on of hf hP hD hS (lv_sub hl [0, 1, 2, 3] rfl))
abbrev wd_Row_addFrom_s (r ra : Nat) (cB cI cJ : ClassId) (rL : Nat) (rn : Int32) (rf : Nat → Int32) : va_W := [(r, .inr (1, [.ref ra, .int rn])), (ra, .inl (cB, rL, .inl rf))]
abbrev rm_Row_addFrom_s : Room := { frames := 1, cells := 0, slots := 0, locals := 18 }
section
variable {p : Program} {l : Launch} {e : Env} {s : State} {m : MethodId} {args : Array Value} {below : List Frame} {meth : Method} {c : Code} {dC : Nat → ClassId} {dI : Nat → Nat → Nat} {A : Nat → Prop} {cB cI cJ : ClassId} {H : Heap} {locs : List Loc} {ls : Array Slot} {N : Nat} {r ra rL : Nat}
noncomputable def j_Row_addFrom_s_0 (rL : Nat) (x2 : Int32) (x3 : Int32) (rn : Int32) (rf : Nat → Int32)  : Option (Int32 × Int32 × (Nat → Int32)) :=
  (if x2 < 0 then (some ((0 : Int32), rn, rf) : Option (Int32 × Int32 × (Nat → Int32))) else (if (x3 - x2) < 0 then (some ((0 : Int32), rn, rf) : Option (Int32 × Int32 × (Nat → Int32))) else (if rn < x3 then (some ((0 : Int32), rn, rf) : Option (Int32 × Int32 × (Nat → Int32))) else (if (x3 - x2) ≤ ((Int32.ofNat rL) - rn) then as_ ((¬ x2 < 0) ∧ (¬ rn < 0) ∧ (¬ (x3 - x2) < 0) ∧ (x2.toNatClampNeg + (x3 - x2).toNatClampNeg ≤ rL) ∧ (rn.toNatClampNeg + (x3 - x2).toNatClampNeg ≤ rL) ∧ (∀ i, i < (x3 - x2).toNatClampNeg → fits .byte (.int (rf (x2.toNatClampNeg + i))) = true)) ((some ((1 : Int32), (rn + (x3 - x2)), (va_cpy rf rf x2.toNatClampNeg rn.toNatClampNeg (x3 - x2).toNatClampNeg)) : Option (Int32 × Int32 × (Nat → Int32)))) else (some ((0 : Int32), rn, rf) : Option (Int32 × Int32 × (Nat → Int32)))))))
set_option maxHeartbeats 4000000 in
set_option maxRecDepth 100000 in
theorem k_Row_addFrom_s_0 {r_z : Int32} {rn_z : Int32} {rf_z : Nat → Int32} (C : Fx p s m args meth c cd_Row_addFrom 5 R_Row lw_g (some .boolean)) (hK : va_K (dC, dI) vwCl [(cB, .byte), (cI, .int), (cJ, .long)] s) (hA : ∀ q, s.heap.size ≤ q → A q) (x2 : Int32) (x3 : Int32) (rn : Int32) (rf : Nat → Int32)  (hf : j_Row_addFrom_s_0 rL x2 x3 rn rf  = some (r_z, rn_z, rf_z)) (hP : va_P (dC, dI) vwCl (wd_Row_addFrom_s r ra cB cI cJ rL rn rf) H) (hD : va_D A (wd_Row_addFrom_s r ra cB cI cJ rL rn rf)) (hS : va_S A s.heap H locs) (hl : lv_has ls 5 [(0, .ref r), (1, .ref r), (2, .int x2), (3, .int x3)]) : W p l e rm_Row_addFrom_s s m args below meth c H locs 0 0 (MQ below (sQi (dC, dI) vwCl [(cB, .byte), (cI, .int), (cJ, .long)] A r_z (wd_Row_addFrom_s r ra cB cI cJ rL rn_z rf_z)) args s 0 0 A) (F0 m 0 ls []) := by
  obtain ⟨hx, hb, hml, hown, hts, hr, hlocks, hZ⟩ := id C
  unfold j_Row_addFrom_s_0 at hf
  refine lv_iload_n hx hb d_Row_addFrom_0 rfl (lv_at hl 3 rfl) ?_
  refine lv_iload_n hx hb d_Row_addFrom_1 rfl (lv_at hl 2 rfl) ?_
  refine lv_isub hx hb d_Row_addFrom_2 ?_
  refine lv_istore (lv' := [(4, .int (x3 - x2)), (0, .ref r), (1, .ref r), (2, .int x2), (3, .int x3)]) hx hb d_Row_addFrom_3 hl (by decide) rfl (fun ls hl => ?_)
  refine lv_iload_n hx hb d_Row_addFrom_5 rfl (lv_at hl 3 rfl) ?_
  refine lv_if_lt (tgt := 37) hx hb d_Row_addFrom_6 (by decide) (fun c_6 => ?_) (fun c_6 => ?_)
  · have hf := br_pos c_6 hf
    refine lv_iconst (v := 0) hx hb d_Row_addFrom_37 (by decide) ?_
    cases hf
    exact s_zret hx hb hr (by decide) hlocks hP hK hD hS d_Row_addFrom_38
  · have hf := br_neg c_6 hf
    refine lv_iload hx hb d_Row_addFrom_9 (lv_at hl 0 rfl) ?_
    refine lv_if_lt (tgt := 37) hx hb d_Row_addFrom_11 (by decide) (fun c_11 => ?_) (fun c_11 => ?_)
    · have hf := br_pos c_11 hf
      refine lv_iconst (v := 0) hx hb d_Row_addFrom_37 (by decide) ?_
      cases hf
      exact s_zret hx hb hr (by decide) hlocks hP hK hD hS d_Row_addFrom_38
    · have hf := br_neg c_11 hf
      refine lv_iload_n hx hb d_Row_addFrom_14 rfl (lv_at hl 4 rfl) ?_
      refine lv_aload_n hx hb d_Row_addFrom_15 rfl (lv_at hl 2 rfl) ?_
      refine va_get (D := (dC, dI)) (ci := 1) (v := .int rn) (C := R_Row) (T := T_Row) (N := 2) hx hb hts w_0 hown hK hP 0 rfl rfl 1 (by decide) (hts _ w_1) (fun _ h9 => h9) rfl d_Row_addFrom_16 ?_
      refine lv_icmp_gt (tgt := 37) hx hb d_Row_addFrom_19 (by decide) (fun c_19 => ?_) (fun c_19 => ?_)
      · have hf := br_pos c_19 hf
        refine lv_iconst (v := 0) hx hb d_Row_addFrom_37 (by decide) ?_
        cases hf
        exact s_zret hx hb hr (by decide) hlocks hP hK hD hS d_Row_addFrom_38
      · have hf := br_neg c_19 hf
        refine lv_iload hx hb d_Row_addFrom_22 (lv_at hl 0 rfl) ?_
        refine lv_aload_n hx hb d_Row_addFrom_24 rfl (lv_at hl 1 rfl) ?_
        refine va_get (D := (dC, dI)) (ci := 1) (v := .ref ra) (C := R_Row) (T := T_Row) (N := 2) hx hb hts w_0 hown hK hP 0 rfl rfl 0 (by decide) (hts _ w_2) (fun _ h9 => h9) rfl d_Row_addFrom_25 ?_
        refine va_alen (v := (Int32.ofNat rL)) hx hb hK hP 1 0 rfl rfl rfl d_Row_addFrom_28 ?_
        refine lv_aload_n hx hb d_Row_addFrom_29 rfl (lv_at hl 1 rfl) ?_
        refine va_get (D := (dC, dI)) (ci := 1) (v := .int rn) (C := R_Row) (T := T_Row) (N := 2) hx hb hts w_0 hown hK hP 0 rfl rfl 1 (by decide) (hts _ w_1) (fun _ h9 => h9) rfl d_Row_addFrom_30 ?_
        refine lv_isub hx hb d_Row_addFrom_33 ?_
        refine lv_icmp_le (tgt := 39) hx hb d_Row_addFrom_34 (by decide) (fun c_34 => ?_) (fun c_34 => ?_)
        · have hf := br_pos c_34 hf
          refine lv_aload_n hx hb d_Row_addFrom_39 rfl (lv_at hl 2 rfl) ?_
          refine va_get (D := (dC, dI)) (ci := 1) (v := .ref ra) (C := R_Row) (T := T_Row) (N := 2) hx hb hts w_0 hown hK hP 0 rfl rfl 0 (by decide) (hts _ w_2) (fun _ h9 => h9) rfl d_Row_addFrom_40 ?_
          refine lv_iload_n hx hb d_Row_addFrom_43 rfl (lv_at hl 3 rfl) ?_
          refine lv_aload_n hx hb d_Row_addFrom_44 rfl (lv_at hl 1 rfl) ?_
          refine va_get (D := (dC, dI)) (ci := 1) (v := .ref ra) (C := R_Row) (T := T_Row) (N := 2) hx hb hts w_0 hown hK hP 0 rfl rfl 0 (by decide) (hts _ w_2) (fun _ h9 => h9) rfl d_Row_addFrom_45 ?_
          refine lv_aload_n hx hb d_Row_addFrom_48 rfl (lv_at hl 1 rfl) ?_
          refine va_get (D := (dC, dI)) (ci := 1) (v := .int rn) (C := R_Row) (T := T_Row) (N := 2) hx hb hts w_0 hown hK hP 0 rfl rfl 1 (by decide) (hts _ w_1) (fun _ h9 => h9) rfl d_Row_addFrom_49 ?_
          refine lv_iload hx hb d_Row_addFrom_52 (lv_at hl 0 rfl) ?_
          obtain ⟨⟨h1c, h2c, h3c, h4c, h5c, h6c⟩, hf⟩ := as_some hf
          refine va_copyi (ty := .byte) hx hb (hml.trans hl.1.symm) hown (hts _ w_3) (hts _ w_4) (hts _ w_5) (hts _ w_6) hK hP hD hS 1 1 0 0 rfl rfl rfl rfl rfl h1c h2c h3c h4c h5c h6c (Nat.le_of_ble_eq_true rfl) (by decide +kernel) d_Row_addFrom_54 (fun H locs hP hD hS => ?_)
          have hP : va_P (dC, dI) vwCl (wd_Row_addFrom_s r ra cB cI cJ rL rn (va_cpy rf rf x2.toNatClampNeg rn.toNatClampNeg (x3 - x2).toNatClampNeg)) H := hP
          have hD : va_D A (wd_Row_addFrom_s r ra cB cI cJ rL rn (va_cpy rf rf x2.toNatClampNeg rn.toNatClampNeg (x3 - x2).toNatClampNeg)) := hD
          refine lv_aload_n hx hb d_Row_addFrom_57 rfl (lv_at hl 1 rfl) ?_
          refine lv_dup hx hb d_Row_addFrom_58 rfl ?_
          refine va_get (D := (dC, dI)) (ci := 1) (v := .int rn) (C := R_Row) (T := T_Row) (N := 2) hx hb hts w_0 hown hK hP 0 rfl rfl 1 (by decide) (hts _ w_1) (fun _ h9 => h9) rfl d_Row_addFrom_59 ?_
          refine lv_iload hx hb d_Row_addFrom_62 (lv_at hl 0 rfl) ?_
          refine lv_iadd hx hb d_Row_addFrom_64 ?_
          refine va_put (D := (dC, dI)) (ci := 1) (v := .int (rn + (x3 - x2))) (ty := .int) (C := R_Row) (T := T_Row) (N := 2) hx hb hts w_0 ty_Row ty_Row_ok nm_Row hown hK hP hD hS 0 rfl rfl 1 (by decide) (hts _ w_1) (fun _ h9 => h9) rfl (by decide +kernel) rfl rfl (Nat.le_of_ble_eq_true rfl) d_Row_addFrom_65 (fun H locs hP hD hS => ?_)
          have hP : va_P (dC, dI) vwCl (wd_Row_addFrom_s r ra cB cI cJ rL (rn + (x3 - x2)) (va_cpy rf rf x2.toNatClampNeg rn.toNatClampNeg (x3 - x2).toNatClampNeg)) H := hP
          have hD : va_D A (wd_Row_addFrom_s r ra cB cI cJ rL (rn + (x3 - x2)) (va_cpy rf rf x2.toNatClampNeg rn.toNatClampNeg (x3 - x2).toNatClampNeg)) := hD
          refine lv_iconst (v := 1) hx hb d_Row_addFrom_68 (by decide) ?_
          cases hf
          exact s_zret hx hb hr (by decide) hlocks hP hK hD hS d_Row_addFrom_69
        · have hf := br_neg c_34 hf
          refine lv_iconst (v := 0) hx hb d_Row_addFrom_37 (by decide) ?_
          cases hf
          exact s_zret hx hb hr (by decide) hlocks hP hK hD hS d_Row_addFrom_38
end
noncomputable abbrev f_Row_addFrom_s (rL : Nat) (x2 : Int32) (x3 : Int32) (rn : Int32) (rf : Nat → Int32) : Option (Int32 × Int32 × (Nat → Int32)) := j_Row_addFrom_s_0 rL x2 x3 rn rf
set_option maxRecDepth 100000 in
theorem c_Row_addFrom_s (l : Launch) (dC : Nat → ClassId) (dI : Nat → Nat → Nat) (cB cI cJ : ClassId) (r ra rL : Nat) (rn : Int32) (rf : Nat → Int32) (x2 : Int32) (x3 : Int32) {r_z : Int32} {rn_z : Int32} {rf_z : Nat → Int32} (hf : f_Row_addFrom_s rL x2 x3 rn rf = some (r_z, rn_z, rf_z)) : MetI l y_Row_addFrom ws_Row_addFrom rm_Row_addFrom_s (dC, dI) vwCl [(cB, .byte), (cI, .int), (cJ, .long)] [.ref r, .ref r, .int x2, .int x3] (wd_Row_addFrom_s r ra cB cI cJ rL rn rf) r_z (wd_Row_addFrom_s r ra cB cI cJ rL rn_z rf_z) 0 0 :=
  s_ofi (bytes := cd_Row_addFrom) (maxL := 5) (ret := (some .boolean)) (by decide) rfl (Nat.le_of_ble_eq_true rfl) (fun p e s m below meth c A ls C hK hA hP hD hS hl => k_Row_addFrom_s_0 C hK hA x2 x3 rn rf hf hP hD hS (lv_sub hl [0, 1, 2, 3] rfl))
