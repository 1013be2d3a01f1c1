abbrev wd_Row_addFrom (r ra o oa : Nat) (cB cI cJ : ClassId) (rL oL : Nat) (rn : Int32) (rf : Nat → Int32) (on : Int32) (of : Nat → Int32) : va_W := [(r, .inr (1, [.ref ra, .int rn])), (ra, .inl (cB, rL, .inl rf)), (o, .inr (1, [.ref oa, .int on])), (oa, .inl (cB, oL, .inl of))]
abbrev rm_Row_addFrom : Room := { frames := 1, cells := 0, slots := 0, locals := 18 }
section
variable {p : Program} {l : Launch} {e : Env} {s : State} {m : MethodId} {args : Array Value} {below : List Frame} {meth : Method} {c : Code} {dC : Nat → ClassId} {dI : Nat → Nat → Nat} {A : Nat → Prop} {cB cI cJ : ClassId} {H : Heap} {locs : List Loc} {ls : Array Slot} {N : Nat} {r ra o oa rL oL : Nat}
noncomputable def j_Row_addFrom_0 (rL : Nat) (oL : Nat) (x2 : Int32) (x3 : Int32) (rn : Int32) (rf : Nat → Int32) (on : Int32) (of : Nat → Int32)  : Option (Int32 × Int32 × (Nat → Int32)) :=
  (if x2 < 0 then (some ((0 : Int32), rn, rf) : Option (Int32 × Int32 × (Nat → Int32))) else (if (x3 - x2) < 0 then (some ((0 : Int32), rn, rf) : Option (Int32 × Int32 × (Nat → Int32))) else (if on < x3 then (some ((0 : Int32), rn, rf) : Option (Int32 × Int32 × (Nat → Int32))) else (if (x3 - x2) ≤ ((Int32.ofNat rL) - rn) then as_ ((¬ x2 < 0) ∧ (¬ rn < 0) ∧ (¬ (x3 - x2) < 0) ∧ (x2.toNatClampNeg + (x3 - x2).toNatClampNeg ≤ oL) ∧ (rn.toNatClampNeg + (x3 - x2).toNatClampNeg ≤ rL) ∧ (∀ i, i < (x3 - x2).toNatClampNeg → fits .byte (.int (of (x2.toNatClampNeg + i))) = true)) ((some ((1 : Int32), (rn + (x3 - x2)), (va_cpy of rf x2.toNatClampNeg rn.toNatClampNeg (x3 - x2).toNatClampNeg)) : Option (Int32 × Int32 × (Nat → Int32)))) else (some ((0 : Int32), rn, rf) : Option (Int32 × Int32 × (Nat → Int32)))))))
set_option maxHeartbeats 4000000 in
set_option maxRecDepth 100000 in
theorem k_Row_addFrom_0 {r_z : Int32} {rn_z : Int32} {rf_z : Nat → Int32} (C : Fx p s m args meth c cd_Row_addFrom 5 R_Row lw_g (some .boolean)) (hK : va_K (dC, dI) vwCl [(cB, .byte), (cI, .int), (cJ, .long)] s) (hA : ∀ q, s.heap.size ≤ q → A q) (x2 : Int32) (x3 : Int32) (rn : Int32) (rf : Nat → Int32) (on : Int32) (of : Nat → Int32)  (hf : j_Row_addFrom_0 rL oL x2 x3 rn rf on of  = some (r_z, rn_z, rf_z)) (hP : va_P (dC, dI) vwCl (wd_Row_addFrom r ra o oa cB cI cJ rL oL rn rf on of) H) (hD : va_D A (wd_Row_addFrom r ra o oa cB cI cJ rL oL rn rf on of)) (hS : va_S A s.heap H locs) (hl : lv_has ls 5 [(0, .ref r), (1, .ref o), (2, .int x2), (3, .int x3)]) : W p l e rm_Row_addFrom s m args below meth c H locs 0 0 (MQ below (sQi (dC, dI) vwCl [(cB, .byte), (cI, .int), (cJ, .long)] A r_z (wd_Row_addFrom r ra o oa cB cI cJ rL oL rn_z rf_z on of)) args s 0 0 A) (F0 m 0 ls []) := by
  obtain ⟨hx, hb, hml, hown, hts, hr, hlocks, hZ⟩ := id C
  unfold j_Row_addFrom_0 at hf
  refine lv_iload_n hx hb d_Row_addFrom_0 rfl (lv_at hl 3 rfl) ?_
  refine lv_iload_n hx hb d_Row_addFrom_1 rfl (lv_at hl 2 rfl) ?_
  refine lv_isub hx hb d_Row_addFrom_2 ?_
  refine lv_istore (lv' := [(4, .int (x3 - x2)), (0, .ref r), (1, .ref o), (2, .int x2), (3, .int x3)]) hx hb d_Row_addFrom_3 hl (by decide) rfl (fun ls hl => ?_)
  refine lv_iload_n hx hb d_Row_addFrom_5 rfl (lv_at hl 3 rfl) ?_
  refine lv_if_lt (tgt := 37) hx hb d_Row_addFrom_6 (by decide) (fun c_6 => ?_) (fun c_6 => ?_)
  · have hf := br_pos c_6 hf
    refine lv_iconst (v := 0) hx hb d_Row_addFrom_37 (by decide) ?_
    cases hf
    exact s_zret hx hb hr (by decide) hlocks hP hK hD hS d_Row_addFrom_38
  · have hf := br_neg c_6 hf
    refine lv_iload hx hb d_Row_addFrom_9 (lv_at hl 0 rfl) ?_
    refine lv_if_lt (tgt := 37) hx hb d_Row_addFrom_11 (by decide) (fun c_11 => ?_) (fun c_11 => ?_)
    · have hf := br_pos c_11 hf
      refine lv_iconst (v := 0) hx hb d_Row_addFrom_37 (by decide) ?_
      cases hf
      exact s_zret hx hb hr (by decide) hlocks hP hK hD hS d_Row_addFrom_38
    · have hf := br_neg c_11 hf
      refine lv_iload_n hx hb d_Row_addFrom_14 rfl (lv_at hl 4 rfl) ?_
      refine lv_aload_n hx hb d_Row_addFrom_15 rfl (lv_at hl 2 rfl) ?_
      refine va_get (D := (dC, dI)) (ci := 1) (v := .int on) (C := R_Row) (T := T_Row) (N := 2) hx hb hts w_0 hown hK hP 2 rfl rfl 1 (by decide) (hts _ w_1) (fun _ h9 => h9) rfl d_Row_addFrom_16 ?_
      refine lv_icmp_gt (tgt := 37) hx hb d_Row_addFrom_19 (by decide) (fun c_19 => ?_) (fun c_19 => ?_)
      · have hf := br_pos c_19 hf
        refine lv_iconst (v := 0) hx hb d_Row_addFrom_37 (by decide) ?_
        cases hf
        exact s_zret hx hb hr (by decide) hlocks hP hK hD hS d_Row_addFrom_38
      · have hf := br_neg c_19 hf
        refine lv_iload hx hb d_Row_addFrom_22 (lv_at hl 0 rfl) ?_
        refine lv_aload_n hx hb d_Row_addFrom_24 rfl (lv_at hl 1 rfl) ?_
        refine va_get (D := (dC, dI)) (ci := 1) (v := .ref ra) (C := R_Row) (T := T_Row) (N := 2) hx hb hts w_0 hown hK hP 0 rfl rfl 0 (by decide) (hts _ w_2) (fun _ h9 => h9) rfl d_Row_addFrom_25 ?_
        refine va_alen (v := (Int32.ofNat rL)) hx hb hK hP 1 0 rfl rfl rfl d_Row_addFrom_28 ?_
        refine lv_aload_n hx hb d_Row_addFrom_29 rfl (lv_at hl 1 rfl) ?_
        refine va_get (D := (dC, dI)) (ci := 1) (v := .int rn) (C := R_Row) (T := T_Row) (N := 2) hx hb hts w_0 hown hK hP 0 rfl rfl 1 (by decide) (hts _ w_1) (fun _ h9 => h9) rfl d_Row_addFrom_30 ?_
        refine lv_isub hx hb d_Row_addFrom_33 ?_
        refine lv_icmp_le (tgt := 39) hx hb d_Row_addFrom_34 (by decide) (fun c_34 => ?_) (fun c_34 => ?_)
        · have hf := br_pos c_34 hf
          refine lv_aload_n hx hb d_Row_addFrom_39 rfl (lv_at hl 2 rfl) ?_
          refine va_get (D := (dC, dI)) (ci := 1) (v := .ref oa) (C := R_Row) (T := T_Row) (N := 2) hx hb hts w_0 hown hK hP 2 rfl rfl 0 (by decide) (hts _ w_2) (fun _ h9 => h9) rfl d_Row_addFrom_40 ?_
          refine lv_iload_n hx hb d_Row_addFrom_43 rfl (lv_at hl 3 rfl) ?_
          refine lv_aload_n hx hb d_Row_addFrom_44 rfl (lv_at hl 1 rfl) ?_
          refine va_get (D := (dC, dI)) (ci := 1) (v := .ref ra) (C := R_Row) (T := T_Row) (N := 2) hx hb hts w_0 hown hK hP 0 rfl rfl 0 (by decide) (hts _ w_2) (fun _ h9 => h9) rfl d_Row_addFrom_45 ?_
          refine lv_aload_n hx hb d_Row_addFrom_48 rfl (lv_at hl 1 rfl) ?_
          refine va_get (D := (dC, dI)) (ci := 1) (v := .int rn) (C := R_Row) (T := T_Row) (N := 2) hx hb hts w_0 hown hK hP 0 rfl rfl 1 (by decide) (hts _ w_1) (fun _ h9 => h9) rfl d_Row_addFrom_49 ?_
          refine lv_iload hx hb d_Row_addFrom_52 (lv_at hl 0 rfl) ?_
          obtain ⟨⟨h1c, h2c, h3c, h4c, h5c, h6c⟩, hf⟩ := as_some hf
          refine va_copyi (ty := .byte) hx hb (hml.trans hl.1.symm) hown (hts _ w_3) (hts _ w_4) (hts _ w_5) (hts _ w_6) hK hP hD hS 3 1 0 0 rfl rfl rfl rfl rfl h1c h2c h3c h4c h5c h6c (Nat.le_of_ble_eq_true rfl) (by decide +kernel) d_Row_addFrom_54 (fun H locs hP hD hS => ?_)
          have hP : va_P (dC, dI) vwCl (wd_Row_addFrom r ra o oa cB cI cJ rL oL rn (va_cpy of rf x2.toNatClampNeg rn.toNatClampNeg (x3 - x2).toNatClampNeg) on of) H := hP
          have hD : va_D A (wd_Row_addFrom r ra o oa cB cI cJ rL oL rn (va_cpy of rf x2.toNatClampNeg rn.toNatClampNeg (x3 - x2).toNatClampNeg) on of) := hD
          refine lv_aload_n hx hb d_Row_addFrom_57 rfl (lv_at hl 1 rfl) ?_
          refine lv_dup hx hb d_Row_addFrom_58 rfl ?_
          refine va_get (D := (dC, dI)) (ci := 1) (v := .int rn) (C := R_Row) (T := T_Row) (N := 2) hx hb hts w_0 hown hK hP 0 rfl rfl 1 (by decide) (hts _ w_1) (fun _ h9 => h9) rfl d_Row_addFrom_59 ?_
          refine lv_iload hx hb d_Row_addFrom_62 (lv_at hl 0 rfl) ?_
          refine lv_iadd hx hb d_Row_addFrom_64 ?_
          refine va_put (D := (dC, dI)) (ci := 1) (v := .int (rn + (x3 - x2))) (ty := .int) (C := R_Row) (T := T_Row) (N := 2) hx hb hts w_0 ty_Row ty_Row_ok nm_Row hown hK hP hD hS 0 rfl rfl 1 (by decide) (hts _ w_1) (fun _ h9 => h9) rfl (by decide +kernel) rfl rfl (Nat.le_of_ble_eq_true rfl) d_Row_addFrom_65 (fun H locs hP hD hS => ?_)
          have hP : va_P (dC, dI) vwCl (wd_Row_addFrom r ra o oa cB cI cJ rL oL (rn + (x3 - x2)) (va_cpy of rf x2.toNatClampNeg rn.toNatClampNeg (x3 - x2).toNatClampNeg) on of) H := hP
          have hD : va_D A (wd_Row_addFrom r ra o oa cB cI cJ rL oL (rn + (x3 - x2)) (va_cpy of rf x2.toNatClampNeg rn.toNatClampNeg (x3 - x2).toNatClampNeg) on of) := hD
          refine lv_iconst (v := 1) hx hb d_Row_addFrom_68 (by decide) ?_
          cases hf
          exact s_zret hx hb hr (by decide) hlocks hP hK hD hS d_Row_addFrom_69
        · have hf := br_neg c_34 hf
          refine lv_iconst (v := 0) hx hb d_Row_addFrom_37 (by decide) ?_
          cases hf
          exact s_zret hx hb hr (by decide) hlocks hP hK hD hS d_Row_addFrom_38
end
noncomputable abbrev f_Row_addFrom (rL : Nat) (oL : Nat) (x2 : Int32) (x3 : Int32) (rn : Int32) (rf : Nat → Int32) (on : Int32) (of : Nat → Int32) : Option (Int32 × Int32 × (Nat → Int32)) := j_Row_addFrom_0 rL oL x2 x3 rn rf on of
set_option maxRecDepth 100000 in
theorem c_Row_addFrom (l : Launch) (dC : Nat → ClassId) (dI : Nat → Nat → Nat) (cB cI cJ : ClassId) (r ra o oa rL oL : Nat) (rn : Int32) (rf : Nat → Int32) (on : Int32) (of : Nat → Int32) (x2 : Int32) (x3 : Int32) {r_z : Int32} {rn_z : Int32} {rf_z : Nat → Int32} (hf : f_Row_addFrom rL oL x2 x3 rn rf on of = some (r_z, rn_z, rf_z)) : MetI l y_Row_addFrom ws_Row_addFrom rm_Row_addFrom (dC, dI) vwCl [(cB, .byte), (cI, .int), (cJ, .long)] [.ref r, .ref o, .int x2, .int x3] (wd_Row_addFrom r ra o oa cB cI cJ rL oL rn rf on of) r_z (wd_Row_addFrom r ra o oa cB cI cJ rL oL rn_z rf_z on of) 0 0 :=
  s_ofi (bytes := cd_Row_addFrom) (maxL := 5) (ret := (some .boolean)) (by decide) rfl (Nat.le_of_ble_eq_true rfl) (fun p e s m below meth c A ls C hK hA hP hD hS hl => k_Row_addFrom_0 C hK hA x2 x3 rn rf on of hf hP hD hS (lv_sub hl [0, 1, 2, 3] rfl))
abbrev wd_Row_addFrom_s (r ra : Nat) (cB cI cJ : ClassId) (rL : Nat) (rn : Int32) (rf : Nat → Int32) : va_W := [(r, .inr (1, [.ref ra, .int rn])), (ra, .inl (cB, rL, .inl rf))]
abbrev rm_Row_addFrom_s : Room := { frames := 1, cells := 0, slots := 0, locals := 18 }
section
variable {p : Program} {l : Launch} {e : Env} {s : State} {m : MethodId} {args : Array Value} {below : List Frame} {meth : Method} {c : Code} {dC : Nat → ClassId} {dI : Nat → Nat → Nat} {A : Nat → Prop} {cB cI cJ : ClassId} {H : Heap} {locs : List Loc} {ls : Array Slot} {N : Nat} {r ra rL : Nat}
noncomputable def j_Row_addFrom_s_0 (rL : Nat) (x2 : Int32) (x3 : Int32) (rn : Int32) (rf : Nat → Int32)  : Option (Int32 × Int32 × (Nat → Int32)) :=
  (if x2 < 0 then (some ((0 : Int32), rn, rf) : Option (Int32 × Int32 × (Nat → Int32))) else (if (x3 - x2) < 0 then (some ((0 : Int32), rn, rf) : Option (Int32 × Int32 × (Nat → Int32))) else (if rn < x3 then (some ((0 : Int32), rn, rf) : Option (Int32 × Int32 × (Nat → Int32))) else (if (x3 - x2) ≤ ((Int32.ofNat rL) - rn) then as_ ((¬ x2 < 0) ∧ (¬ rn < 0) ∧ (¬ (x3 - x2) < 0) ∧ (x2.toNatClampNeg + (x3 - x2).toNatClampNeg ≤ rL) ∧ (rn.toNatClampNeg + (x3 - x2).toNatClampNeg ≤ rL) ∧ (∀ i, i < (x3 - x2).toNatClampNeg → fits .byte (.int (rf (x2.toNatClampNeg + i))) = true)) ((some ((1 : Int32), (rn + (x3 - x2)), (va_cpy rf rf x2.toNatClampNeg rn.toNatClampNeg (x3 - x2).toNatClampNeg)) : Option (Int32 × Int32 × (Nat → Int32)))) else (some ((0 : Int32), rn, rf) : Option (Int32 × Int32 × (Nat → Int32)))))))
set_option maxHeartbeats 4000000 in
set_option maxRecDepth 100000 in
theorem k_Row_addFrom_s_0 {r_z : Int32} {rn_z : Int32} {rf_z : Nat → Int32} (C : Fx p s m args meth c cd_Row_addFrom 5 R_Row lw_g (some .boolean)) (hK : va_K (dC, dI) vwCl [(cB, .byte), (cI, .int), (cJ, .long)] s) (hA : ∀ q, s.heap.size ≤ q → A q) (x2 : Int32) (x3 : Int32) (rn : Int32) (rf : Nat → Int32)  (hf : j_Row_addFrom_s_0 rL x2 x3 rn rf  = some (r_z, rn_z, rf_z)) (hP : va_P (dC, dI) vwCl (wd_Row_addFrom_s r ra cB cI cJ rL rn rf) H) (hD : va_D A (wd_Row_addFrom_s r ra cB cI cJ rL rn rf)) (hS : va_S A s.heap H locs) (hl : lv_has ls 5 [(0, .ref r), (1, .ref r), (2, .int x2), (3, .int x3)]) : W p l e rm_Row_addFrom_s s m args below meth c H locs 0 0 (MQ below (sQi (dC, dI) vwCl [(cB, .byte), (cI, .int), (cJ, .long)] A r_z (wd_Row_addFrom_s r ra cB cI cJ rL rn_z rf_z)) args s 0 0 A) (F0 m 0 ls []) := by
  obtain ⟨hx, hb, hml, hown, hts, hr, hlocks, hZ⟩ := id C
  unfold j_Row_addFrom_s_0 at hf
  refine lv_iload_n hx hb d_Row_addFrom_0 rfl (lv_at hl 3 rfl) ?_
  refine lv_iload_n hx hb d_Row_addFrom_1 rfl (lv_at hl 2 rfl) ?_
  refine lv_isub hx hb d_Row_addFrom_2 ?_
  refine lv_istore (lv' := [(4, .int (x3 - x2)), (0, .ref r), (1, .ref r), (2, .int x2), (3, .int x3)]) hx hb d_Row_addFrom_3 hl (by decide) rfl (fun ls hl => ?_)
  refine lv_iload_n hx hb d_Row_addFrom_5 rfl (lv_at hl 3 rfl) ?_
  refine lv_if_lt (tgt := 37) hx hb d_Row_addFrom_6 (by decide) (fun c_6 => ?_) (fun c_6 => ?_)
  · have hf := br_pos c_6 hf
    refine lv_iconst (v := 0) hx hb d_Row_addFrom_37 (by decide) ?_
    cases hf
    exact s_zret hx hb hr (by decide) hlocks hP hK hD hS d_Row_addFrom_38
  · have hf := br_neg c_6 hf
    refine lv_iload hx hb d_Row_addFrom_9 (lv_at hl 0 rfl) ?_
    refine lv_if_lt (tgt := 37) hx hb d_Row_addFrom_11 (by decide) (fun c_11 => ?_) (fun c_11 => ?_)
    · have hf := br_pos c_11 hf
      refine lv_iconst (v := 0) hx hb d_Row_addFrom_37 (by decide) ?_
      cases hf
      exact s_zret hx hb hr (by decide) hlocks hP hK hD hS d_Row_addFrom_38
    · have hf := br_neg c_11 hf
      refine lv_iload_n hx hb d_Row_addFrom_14 rfl (lv_at hl 4 rfl) ?_
      refine lv_aload_n hx hb d_Row_addFrom_15 rfl (lv_at hl 2 rfl) ?_
      refine va_get (D := (dC, dI)) (ci := 1) (v := .int rn) (C := R_Row) (T := T_Row) (N := 2) hx hb hts w_0 hown hK hP 0 rfl rfl 1 (by decide) (hts _ w_1) (fun _ h9 => h9) rfl d_Row_addFrom_16 ?_
      refine lv_icmp_gt (tgt := 37) hx hb d_Row_addFrom_19 (by decide) (fun c_19 => ?_) (fun c_19 => ?_)
      · have hf := br_pos c_19 hf
        refine lv_iconst (v := 0) hx hb d_Row_addFrom_37 (by decide) ?_
        cases hf
        exact s_zret hx hb hr (by decide) hlocks hP hK hD hS d_Row_addFrom_38
      · have hf := br_neg c_19 hf
        refine lv_iload hx hb d_Row_addFrom_22 (lv_at hl 0 rfl) ?_
        refine lv_aload_n hx hb d_Row_addFrom_24 rfl (lv_at hl 1 rfl) ?_
        refine va_get (D := (dC, dI)) (ci := 1) (v := .ref ra) (C := R_Row) (T := T_Row) (N := 2) hx hb hts w_0 hown hK hP 0 rfl rfl 0 (by decide) (hts _ w_2) (fun _ h9 => h9) rfl d_Row_addFrom_25 ?_
        refine va_alen (v := (Int32.ofNat rL)) hx hb hK hP 1 0 rfl rfl rfl d_Row_addFrom_28 ?_
        refine lv_aload_n hx hb d_Row_addFrom_29 rfl (lv_at hl 1 rfl) ?_
        refine va_get (D := (dC, dI)) (ci := 1) (v := .int rn) (C := R_Row) (T := T_Row) (N := 2) hx hb hts w_0 hown hK hP 0 rfl rfl 1 (by decide) (hts _ w_1) (fun _ h9 => h9) rfl d_Row_addFrom_30 ?_
        refine lv_isub hx hb d_Row_addFrom_33 ?_
        refine lv_icmp_le (tgt := 39) hx hb d_Row_addFrom_34 (by decide) (fun c_34 => ?_) (fun c_34 => ?_)
        · have hf := br_pos c_34 hf
          refine lv_aload_n hx hb d_Row_addFrom_39 rfl (lv_at hl 2 rfl) ?_
          refine va_get (D := (dC, dI)) (ci := 1) (v := .ref ra) (C := R_Row) (T := T_Row) (N := 2) hx hb hts w_0 hown hK hP 0 rfl rfl 0 (by decide) (hts _ w_2) (fun _ h9 => h9) rfl d_Row_addFrom_40 ?_
          refine lv_iload_n hx hb d_Row_addFrom_43 rfl (lv_at hl 3 rfl) ?_
          refine lv_aload_n hx hb d_Row_addFrom_44 rfl (lv_at hl 1 rfl) ?_
          refine va_get (D := (dC, dI)) (ci := 1) (v := .ref ra) (C := R_Row) (T := T_Row) (N := 2) hx hb hts w_0 hown hK hP 0 rfl rfl 0 (by decide) (hts _ w_2) (fun _ h9 => h9) rfl d_Row_addFrom_45 ?_
          refine lv_aload_n hx hb d_Row_addFrom_48 rfl (lv_at hl 1 rfl) ?_
          refine va_get (D := (dC, dI)) (ci := 1) (v := .int rn) (C := R_Row) (T := T_Row) (N := 2) hx hb hts w_0 hown hK hP 0 rfl rfl 1 (by decide) (hts _ w_1) (fun _ h9 => h9) rfl d_Row_addFrom_49 ?_
          refine lv_iload hx hb d_Row_addFrom_52 (lv_at hl 0 rfl) ?_
          obtain ⟨⟨h1c, h2c, h3c, h4c, h5c, h6c⟩, hf⟩ := as_some hf
          refine va_copyi (ty := .byte) hx hb (hml.trans hl.1.symm) hown (hts _ w_3) (hts _ w_4) (hts _ w_5) (hts _ w_6) hK hP hD hS 1 1 0 0 rfl rfl rfl rfl rfl h1c h2c h3c h4c h5c h6c (Nat.le_of_ble_eq_true rfl) (by decide +kernel) d_Row_addFrom_54 (fun H locs hP hD hS => ?_)
          have hP : va_P (dC, dI) vwCl (wd_Row_addFrom_s r ra cB cI cJ rL rn (va_cpy rf rf x2.toNatClampNeg rn.toNatClampNeg (x3 - x2).toNatClampNeg)) H := hP
          have hD : va_D A (wd_Row_addFrom_s r ra cB cI cJ rL rn (va_cpy rf rf x2.toNatClampNeg rn.toNatClampNeg (x3 - x2).toNatClampNeg)) := hD
          refine lv_aload_n hx hb d_Row_addFrom_57 rfl (lv_at hl 1 rfl) ?_
          refine lv_dup hx hb d_Row_addFrom_58 rfl ?_
          refine va_get (D := (dC, dI)) (ci := 1) (v := .int rn) (C := R_Row) (T := T_Row) (N := 2) hx hb hts w_0 hown hK hP 0 rfl rfl 1 (by decide) (hts _ w_1) (fun _ h9 => h9) rfl d_Row_addFrom_59 ?_
          refine lv_iload hx hb d_Row_addFrom_62 (lv_at hl 0 rfl) ?_
          refine lv_iadd hx hb d_Row_addFrom_64 ?_
          refine va_put (D := (dC, dI)) (ci := 1) (v := .int (rn + (x3 - x2))) (ty := .int) (C := R_Row) (T := T_Row) (N := 2) hx hb hts w_0 ty_Row ty_Row_ok nm_Row hown hK hP hD hS 0 rfl rfl 1 (by decide) (hts _ w_1) (fun _ h9 => h9) rfl (by decide +kernel) rfl rfl (Nat.le_of_ble_eq_true rfl) d_Row_addFrom_65 (fun H locs hP hD hS => ?_)
          have hP : va_P (dC, dI) vwCl (wd_Row_addFrom_s r ra cB cI cJ rL (rn + (x3 - x2)) (va_cpy rf rf x2.toNatClampNeg rn.toNatClampNeg (x3 - x2).toNatClampNeg)) H := hP
          have hD : va_D A (wd_Row_addFrom_s r ra cB cI cJ rL (rn + (x3 - x2)) (va_cpy rf rf x2.toNatClampNeg rn.toNatClampNeg (x3 - x2).toNatClampNeg)) := hD
          refine lv_iconst (v := 1) hx hb d_Row_addFrom_68 (by decide) ?_
          cases hf
          exact s_zret hx hb hr (by decide) hlocks hP hK hD hS d_Row_addFrom_69
        · have hf := br_neg c_34 hf
          refine lv_iconst (v := 0) hx hb d_Row_addFrom_37 (by decide) ?_
          cases hf
          exact s_zret hx hb hr (by decide) hlocks hP hK hD hS d_Row_addFrom_38
end
noncomputable abbrev f_Row_addFrom_s (rL : Nat) (x2 : Int32) (x3 : Int32) (rn : Int32) (rf : Nat → Int32) : Option (Int32 × Int32 × (Nat → Int32)) := j_Row_addFrom_s_0 rL x2 x3 rn rf
set_option maxRecDepth 100000 in
theorem c_Row_addFrom_s (l : Launch) (dC : Nat → ClassId) (dI : Nat → Nat → Nat) (cB cI cJ : ClassId) (r ra rL : Nat) (rn : Int32) (rf : Nat → Int32) (x2 : Int32) (x3 : Int32) {r_z : Int32} {rn_z : Int32} {rf_z : Nat → Int32} (hf : f_Row_addFrom_s rL x2 x3 rn rf = some (r_z, rn_z, rf_z)) : MetI l y_Row_addFrom ws_Row_addFrom rm_Row_addFrom_s (dC, dI) vwCl [(cB, .byte), (cI, .int), (cJ, .long)] [.ref r, .ref r, .int x2, .int x3] (wd_Row_addFrom_s r ra cB cI cJ rL rn rf) r_z (wd_Row_addFrom_s r ra cB cI cJ rL rn_z rf_z) 0 0 :=
  s_ofi (bytes := cd_Row_addFrom) (maxL := 5) (ret := (some .boolean)) (by decide) rfl (Nat.le_of_ble_eq_true rfl) (fun p e s m below meth c A ls C hK hA hP hD hS hl => k_Row_addFrom_s_0 C hK hA x2 x3 rn rf hf hP hD hS (lv_sub hl [0, 1, 2, 3] rfl))

abbrev wd_Row_count (r ra : Nat) (cB cI cJ : ClassId) (rn : Int32) : va_W := [(r, .inr (1, [.ref ra, .int rn]))]
abbrev rm_Row_count : Room := { frames := 0, cells := 0, slots := 0, locals := 0 }
section
variable {p : Program} {l : Launch} {e : Env} {s : State} {m : MethodId} {args : Array Value} {below : List Frame} {meth : Method} {c : Code} {dC : Nat → ClassId} {dI : Nat → Nat → Nat} {A : Nat → Prop} {cB cI cJ : ClassId} {H : Heap} {locs : List Loc} {ls : Array Slot} {N : Nat} {r ra : Nat}
noncomputable def j_Row_count_0 (rn : Int32)  : Option (Int32) :=
  (some rn : Option (Int32))
set_option maxHeartbeats 4000000 in
set_option maxRecDepth 100000 in
theorem k_Row_count_0 {r_z : Int32} (C : Fx p s m args meth c cd_Row_count 1 R_Row lw_g (some .int)) (hK : va_K (dC, dI) vwCl [(cB, .byte), (cI, .int), (cJ, .long)] s) (hA : ∀ q, s.heap.size ≤ q → A q) (rn : Int32)  (hf : j_Row_count_0 rn  = some r_z) (hP : va_P (dC, dI) vwCl (wd_Row_count r ra cB cI cJ rn) H) (hD : va_D A (wd_Row_count r ra cB cI cJ rn)) (hS : va_S A s.heap H locs) (hl : lv_has ls 1 [(0, .ref r)]) : W p l e rm_Row_count s m args below meth c H locs 0 0 (MQ below (sQi (dC, dI) vwCl [(cB, .byte), (cI, .int), (cJ, .long)] A r_z (wd_Row_count r ra cB cI cJ rn)) args s 0 0 A) (F0 m 0 ls []) := by
  obtain ⟨hx, hb, hml, hown, hts, hr, hlocks, hZ⟩ := id C
  unfold j_Row_count_0 at hf
  refine lv_aload_n hx hb d_Row_count_0 rfl (lv_at hl 0 rfl) ?_
  refine va_get (D := (dC, dI)) (ci := 1) (v := .int rn) (C := R_Row) (T := T_Row) (N := 2) hx hb hts w_0 hown hK hP 0 rfl rfl 1 (by decide) (hts _ w_1) (fun _ h9 => h9) rfl d_Row_count_1 ?_
  cases hf
  exact s_iret hx hb hr hlocks hP hK hD hS d_Row_count_4
end
noncomputable abbrev f_Row_count (rn : Int32) : Option (Int32) := j_Row_count_0 rn
set_option maxRecDepth 100000 in
theorem c_Row_count (l : Launch) (dC : Nat → ClassId) (dI : Nat → Nat → Nat) (cB cI cJ : ClassId) (r ra : Nat) (rn : Int32)  {r_z : Int32} (hf : f_Row_count rn = some r_z) : MetI l y_Row_count ws_Row_count rm_Row_count (dC, dI) vwCl [(cB, .byte), (cI, .int), (cJ, .long)] [.ref r] (wd_Row_count r ra cB cI cJ rn) r_z (wd_Row_count r ra cB cI cJ rn) 0 0 :=
  s_ofi (bytes := cd_Row_count) (maxL := 1) (ret := (some .int)) (by decide) rfl (Nat.le_of_ble_eq_true rfl) (fun p e s m below meth c A ls C hK hA hP hD hS hl => k_Row_count_0 C hK hA rn hf hP hD hS (lv_sub hl [0] rfl))

abbrev wd_Row_hasRoomFor (r ra : Nat) (cB cI cJ : ClassId) (rL : Nat) (rn : Int32) (rf : Nat → Int32) : va_W := [(r, .inr (1, [.ref ra, .int rn])), (ra, .inl (cB, rL, .inl rf))]
abbrev rm_Row_hasRoomFor : Room := { frames := 0, cells := 0, slots := 0, locals := 0 }
section
variable {p : Program} {l : Launch} {e : Env} {s : State} {m : MethodId} {args : Array Value} {below : List Frame} {meth : Method} {c : Code} {dC : Nat → ClassId} {dI : Nat → Nat → Nat} {A : Nat → Prop} {cB cI cJ : ClassId} {H : Heap} {locs : List Loc} {ls : Array Slot} {N : Nat} {r ra rL : Nat}
noncomputable def j_Row_hasRoomFor_0 (rL : Nat) (x1 : Int64) (rn : Int32)  : Option (Int32) :=
  (if 0 < (lg_cmp x1 (((Int32.ofNat rL) - rn).toInt64)) then (some (0 : Int32) : Option (Int32)) else (some (1 : Int32) : Option (Int32)))
set_option maxHeartbeats 4000000 in
set_option maxRecDepth 100000 in
theorem k_Row_hasRoomFor_0 {r_z : Int32} (C : Fx p s m args meth c cd_Row_hasRoomFor 3 R_Row lw_g (some .boolean)) (hK : va_K (dC, dI) vwCl [(cB, .byte), (cI, .int), (cJ, .long)] s) (hA : ∀ q, s.heap.size ≤ q → A q) (x1 : Int64) (rn : Int32) (rf : Nat → Int32)  (hf : j_Row_hasRoomFor_0 rL x1 rn  = some r_z) (hP : va_P (dC, dI) vwCl (wd_Row_hasRoomFor r ra cB cI cJ rL rn rf) H) (hD : va_D A (wd_Row_hasRoomFor r ra cB cI cJ rL rn rf)) (hS : va_S A s.heap H locs) (hl : lv_has ls 3 [(0, .ref r), (1, .long x1)]) : W p l e rm_Row_hasRoomFor s m args below meth c H locs 0 0 (MQ below (sQi (dC, dI) vwCl [(cB, .byte), (cI, .int), (cJ, .long)] A r_z (wd_Row_hasRoomFor r ra cB cI cJ rL rn rf)) args s 0 0 A) (F0 m 0 ls []) := by
  obtain ⟨hx, hb, hml, hown, hts, hr, hlocks, hZ⟩ := id C
  unfold j_Row_hasRoomFor_0 at hf
  refine lv_lload_n hx hb d_Row_hasRoomFor_0 rfl (lv_at hl 1 rfl) ?_
  refine lv_aload_n hx hb d_Row_hasRoomFor_1 rfl (lv_at hl 0 rfl) ?_
  refine va_get (D := (dC, dI)) (ci := 1) (v := .ref ra) (C := R_Row) (T := T_Row) (N := 2) hx hb hts w_0 hown hK hP 0 rfl rfl 0 (by decide) (hts _ w_2) (fun _ h9 => h9) rfl d_Row_hasRoomFor_2 ?_
  refine va_alen (v := (Int32.ofNat rL)) hx hb hK hP 1 0 rfl rfl rfl d_Row_hasRoomFor_5 ?_
  refine lv_aload_n hx hb d_Row_hasRoomFor_6 rfl (lv_at hl 0 rfl) ?_
  refine va_get (D := (dC, dI)) (ci := 1) (v := .int rn) (C := R_Row) (T := T_Row) (N := 2) hx hb hts w_0 hown hK hP 0 rfl rfl 1 (by decide) (hts _ w_1) (fun _ h9 => h9) rfl d_Row_hasRoomFor_7 ?_
  refine lv_isub hx hb d_Row_hasRoomFor_10 ?_
  refine lv_i2l (v := (((Int32.ofNat rL) - rn).toInt64)) hx hb d_Row_hasRoomFor_11 rfl ?_
  refine W.lcmp hx hb d_Row_hasRoomFor_12 ?_
  refine lv_if_gt (tgt := 20) hx hb d_Row_hasRoomFor_13 (by decide) (fun c_13 => ?_) (fun c_13 => ?_)
  · have hf := br_pos c_13 hf
    refine lv_iconst (v := 0) hx hb d_Row_hasRoomFor_20 (by decide) ?_
    cases hf
    exact s_zret hx hb hr (by decide) hlocks hP hK hD hS d_Row_hasRoomFor_21
  · have hf := br_neg c_13 hf
    refine lv_iconst (v := 1) hx hb d_Row_hasRoomFor_16 (by decide) ?_
    refine lv_goto (tgt := 21) hx hb d_Row_hasRoomFor_17 (by decide) ?_
    cases hf
    exact s_zret hx hb hr (by decide) hlocks hP hK hD hS d_Row_hasRoomFor_21
end
noncomputable abbrev f_Row_hasRoomFor (rL : Nat) (x1 : Int64) (rn : Int32) : Option (Int32) := j_Row_hasRoomFor_0 rL x1 rn
set_option maxRecDepth 100000 in
theorem c_Row_hasRoomFor (l : Launch) (dC : Nat → ClassId) (dI : Nat → Nat → Nat) (cB cI cJ : ClassId) (r ra rL : Nat) (rn : Int32) (rf : Nat → Int32) (x1 : Int64) {r_z : Int32} (hf : f_Row_hasRoomFor rL x1 rn = some r_z) : MetI l y_Row_hasRoomFor ws_Row_hasRoomFor rm_Row_hasRoomFor (dC, dI) vwCl [(cB, .byte), (cI, .int), (cJ, .long)] [.ref r, .long x1] (wd_Row_hasRoomFor r ra cB cI cJ rL rn rf) r_z (wd_Row_hasRoomFor r ra cB cI cJ rL rn rf) 0 0 :=
  s_ofi (bytes := cd_Row_hasRoomFor) (maxL := 3) (ret := (some .boolean)) (by decide) rfl (Nat.le_of_ble_eq_true rfl) (fun p e s m below meth c A ls C hK hA hP hD hS hl => k_Row_hasRoomFor_0 C hK hA x1 rn rf hf hP hD hS (lv_sub hl [0, 1] rfl))

abbrev wd_Row_cutTo (r ra : Nat) (cB cI cJ : ClassId) (rn : Int32) : va_W := [(r, .inr (1, [.ref ra, .int rn]))]
abbrev rm_Row_cutTo : Room := { frames := 1, cells := 0, slots := 0, locals := 15 }
section
variable {p : Program} {l : Launch} {e : Env} {s : State} {m : MethodId} {args : Array Value} {below : List Frame} {meth : Method} {c : Code} {dC : Nat → ClassId} {dI : Nat → Nat → Nat} {A : Nat → Prop} {cB cI cJ : ClassId} {H : Heap} {locs : List Loc} {ls : Array Slot} {N : Nat} {r ra : Nat}
noncomputable def j_Row_cutTo_0 (x1 : Int32) (rn : Int32)  : Option (Int32) :=
  (some (mx (0 : Int32) (mn rn x1)) : Option (Int32))
set_option maxHeartbeats 4000000 in
set_option maxRecDepth 100000 in
theorem k_Row_cutTo_0 {rn_z : Int32} (C : Fx p s m args meth c cd_Row_cutTo 2 R_Row lw_g none) (hK : va_K (dC, dI) vwCl [(cB, .byte), (cI, .int), (cJ, .long)] s) (hA : ∀ q, s.heap.size ≤ q → A q) (x1 : Int32) (rn : Int32)  (hf : j_Row_cutTo_0 x1 rn  = some rn_z) (hP : va_P (dC, dI) vwCl (wd_Row_cutTo r ra cB cI cJ rn) H) (hD : va_D A (wd_Row_cutTo r ra cB cI cJ rn)) (hS : va_S A s.heap H locs) (hl : lv_has ls 2 [(0, .ref r), (1, .int x1)]) : W p l e rm_Row_cutTo s m args below meth c H locs 0 0 (MQ below (sQv (dC, dI) vwCl [(cB, .byte), (cI, .int), (cJ, .long)] A (wd_Row_cutTo r ra cB cI cJ rn_z)) args s 0 0 A) (F0 m 0 ls []) := by
  obtain ⟨hx, hb, hml, hown, hts, hr, hlocks, hZ⟩ := id C
  unfold j_Row_cutTo_0 at hf
  refine lv_aload_n hx hb d_Row_cutTo_0 rfl (lv_at hl 0 rfl) ?_
  refine lv_iconst (v := 0) hx hb d_Row_cutTo_1 (by decide) ?_
  refine lv_aload_n hx hb d_Row_cutTo_2 rfl (lv_at hl 0 rfl) ?_
  refine va_get (D := (dC, dI)) (ci := 1) (v := .int rn) (C := R_Row) (T := T_Row) (N := 2) hx hb hts w_0 hown hK hP 0 rfl rfl 1 (by decide) (hts _ w_1) (fun _ h9 => h9) rfl d_Row_cutTo_3 ?_
  refine lv_iload_n hx hb d_Row_cutTo_6 rfl (lv_at hl 1 rfl) ?_
  refine s_mmin hx hb (hml.trans hl.1.symm) hown (hts _ w_22) (hts _ w_23) (hts _ w_24) (hts _ w_25) (Nat.le_of_ble_eq_true rfl) (Nat.le_of_ble_eq_true rfl) (Nat.zero_le _) (Nat.zero_le _) d_Row_cutTo_7 ?_
  refine s_mmax hx hb (hml.trans hl.1.symm) hown (hts _ w_26) (hts _ w_27) (hts _ w_24) (hts _ w_28) (Nat.le_of_ble_eq_true rfl) (Nat.le_of_ble_eq_true rfl) (Nat.zero_le _) (Nat.zero_le _) d_Row_cutTo_10 ?_
  refine va_put (D := (dC, dI)) (ci := 1) (v := .int (mx (0 : Int32) (mn rn x1))) (ty := .int) (C := R_Row) (T := T_Row) (N := 2) hx hb hts w_0 ty_Row ty_Row_ok nm_Row hown hK hP hD hS 0 rfl rfl 1 (by decide) (hts _ w_1) (fun _ h9 => h9) rfl (by decide +kernel) rfl rfl (Nat.le_of_ble_eq_true rfl) d_Row_cutTo_13 (fun H locs hP hD hS => ?_)
  have hP : va_P (dC, dI) vwCl (wd_Row_cutTo r ra cB cI cJ (mx (0 : Int32) (mn rn x1))) H := hP
  have hD : va_D A (wd_Row_cutTo r ra cB cI cJ (mx (0 : Int32) (mn rn x1))) := hD
  cases hf
  exact s_vret hx hb hr hlocks hP hK hD hS d_Row_cutTo_16
end
noncomputable abbrev f_Row_cutTo (x1 : Int32) (rn : Int32) : Option (Int32) := j_Row_cutTo_0 x1 rn
set_option maxRecDepth 100000 in
theorem c_Row_cutTo (l : Launch) (dC : Nat → ClassId) (dI : Nat → Nat → Nat) (cB cI cJ : ClassId) (r ra : Nat) (rn : Int32) (x1 : Int32) {rn_z : Int32} (hf : f_Row_cutTo x1 rn = some rn_z) : MetV l y_Row_cutTo ws_Row_cutTo rm_Row_cutTo (dC, dI) vwCl [(cB, .byte), (cI, .int), (cJ, .long)] [.ref r, .int x1] (wd_Row_cutTo r ra cB cI cJ rn)  (wd_Row_cutTo r ra cB cI cJ rn_z) 0 0 :=
  s_ofv (bytes := cd_Row_cutTo) (maxL := 2) (ret := none) (by decide) rfl (Nat.le_of_ble_eq_true rfl) (fun p e s m below meth c A ls C hK hA hP hD hS hl => k_Row_cutTo_0 C hK hA x1 rn hf hP hD hS (lv_sub hl [0, 1] rfl))

abbrev wd_Row_become (r ra o oa : Nat) (cB cI cJ : ClassId) (rL oL : Nat) (rn : Int32) (rf : Nat → Int32) (on : Int32) (of : Nat → Int32) : va_W := [(r, .inr (1, [.ref ra, .int rn])), (ra, .inl (cB, rL, .inl rf)), (o, .inr (1, [.ref oa, .int on])), (oa, .inl (cB, oL, .inl of))]
abbrev rm_Row_become : Room := { frames := 2, cells := 0, slots := 0, locals := 42 }
section
variable {p : Program} {l : Launch} {e : Env} {s : State} {m : MethodId} {args : Array Value} {below : List Frame} {meth : Method} {c : Code} {dC : Nat → ClassId} {dI : Nat → Nat → Nat} {A : Nat → Prop} {cB cI cJ : ClassId} {H : Heap} {locs : List Loc} {ls : Array Slot} {N : Nat} {r ra o oa rL oL : Nat}
noncomputable def j_Row_become_0 (rL : Nat) (oL : Nat) (rn : Int32) (rf : Nat → Int32) (on : Int32) (of : Nat → Int32)  : Option (Int32 × (Nat → Int32)) :=
  bd1 (f_Row_cutTo (0 : Int32) rn) (fun rn_2 => bd3 (f_Row_addFrom rL oL (0 : Int32) on rn_2 rf on of) (fun r12 rn_12 rf_12 => (some (rn_12, rf_12) : Option (Int32 × (Nat → Int32)))))
set_option maxHeartbeats 4000000 in
set_option maxRecDepth 100000 in
theorem k_Row_become_0 {rn_z : Int32} {rf_z : Nat → Int32} (C : Fx p s m args meth c cd_Row_become 2 R_Row lw_g none) (hK : va_K (dC, dI) vwCl [(cB, .byte), (cI, .int), (cJ, .long)] s) (hA : ∀ q, s.heap.size ≤ q → A q) (rn : Int32) (rf : Nat → Int32) (on : Int32) (of : Nat → Int32)  (hf : j_Row_become_0 rL oL rn rf on of  = some (rn_z, rf_z)) (hP : va_P (dC, dI) vwCl (wd_Row_become r ra o oa cB cI cJ rL oL rn rf on of) H) (hD : va_D A (wd_Row_become r ra o oa cB cI cJ rL oL rn rf on of)) (hS : va_S A s.heap H locs) (hl : lv_has ls 2 [(0, .ref r), (1, .ref o)]) : W p l e rm_Row_become s m args below meth c H locs 0 0 (MQ below (sQv (dC, dI) vwCl [(cB, .byte), (cI, .int), (cJ, .long)] A (wd_Row_become r ra o oa cB cI cJ rL oL rn_z rf_z on of)) args s 0 0 A) (F0 m 0 ls []) := by
  obtain ⟨hx, hb, hml, hown, hts, hr, hlocks, hZ⟩ := id C
  unfold j_Row_become_0 at hf
  refine lv_aload_n hx hb d_Row_become_0 rfl (lv_at hl 0 rfl) ?_
  refine lv_iconst (v := 0) hx hb d_Row_become_1 (by decide) ?_
  obtain ⟨rn_2, hc2, hf⟩ := bd1_some hf
  refine s_Vv (As := [.int (0 : Int32)]) (rest := []) (wr := [(ra, .inl (cB, rL, .inl rf)), (o, .inr (1, [.ref oa, .int on])), (oa, .inl (cB, oL, .inl of))]) (ws' := wd_Row_become r ra o oa cB cI cJ rL oL rn_2 rf on of) C.call (c_Row_cutTo l dC dI cB cI cJ r ra  rn (0 : Int32) hc2) (cwV 1 hts (gd_V w_29 w_30 w_31 w_12 w_32) rfl rfl rfl ⟨rfl, hd_Row_cutTo⟩ ⟨Nat.le_of_ble_eq_true rfl, Nat.le_of_ble_eq_true rfl⟩) rfl hl.1 rfl (Nat.le_of_ble_eq_true rfl) d_Row_become_2 ⟨Nat.le_of_ble_eq_true rfl, Nat.le_of_ble_eq_true rfl⟩ hZ hK hP hD hS hA 1 0 rfl rfl [0] [1, 2, 3] [3, 0, 1, 2] rfl rfl rfl rfl (by decide) rfl rfl (fun H locs hP hD hS => ?_)
  refine lv_aload_n hx hb d_Row_become_5 rfl (lv_at hl 0 rfl) ?_
  refine lv_aload_n hx hb d_Row_become_6 rfl (lv_at hl 1 rfl) ?_
  refine lv_iconst (v := 0) hx hb d_Row_become_7 (by decide) ?_
  refine lv_aload_n hx hb d_Row_become_8 rfl (lv_at hl 1 rfl) ?_
  refine va_get (D := (dC, dI)) (ci := 1) (v := .int on) (C := R_Row) (T := T_Row) (N := 2) hx hb hts w_0 hown hK hP 2 rfl rfl 1 (by decide) (hts _ w_1) (fun _ h9 => h9) rfl d_Row_become_9 ?_
  obtain ⟨r12, rn_12, rf_12, hc12, hf⟩ := bd3_some hf
  refine s_Vi (As := [.ref o, .int (0 : Int32), .int on]) (rest := []) (wr := []) (ws' := wd_Row_become r ra o oa cB cI cJ rL oL rn_12 rf_12 on of) C.call (c_Row_addFrom l dC dI cB cI cJ r ra o oa rL oL rn_2 rf on of (0 : Int32) on hc12) (cwV 3 hts (gd_V w_33 w_19 w_20 w_12 w_21) rfl rfl rfl ⟨rfl, hd_Row_addFrom⟩ ⟨Nat.le_of_ble_eq_true rfl, Nat.le_of_ble_eq_true rfl⟩) rfl hl.1 rfl (Nat.le_of_ble_eq_true rfl) d_Row_become_12 ⟨Nat.le_of_ble_eq_true rfl, Nat.le_of_ble_eq_true rfl⟩ hZ hK hP hD hS hA 1 0 rfl rfl [0, 1, 2, 3] [] [0, 1, 2, 3] rfl rfl rfl rfl (by decide) rfl rfl (fun H locs hP hD hS => ?_)
  refine lv_pop hx hb d_Row_become_15 rfl ?_
  cases hf
  exact s_vret hx hb hr hlocks hP hK hD hS d_Row_become_16
end
noncomputable abbrev f_Row_become (rL : Nat) (oL : Nat) (rn : Int32) (rf : Nat → Int32) (on : Int32) (of : Nat → Int32) : Option (Int32 × (Nat → Int32)) := j_Row_become_0 rL oL rn rf on of
set_option maxRecDepth 100000 in
theorem c_Row_become (l : Launch) (dC : Nat → ClassId) (dI : Nat → Nat → Nat) (cB cI cJ : ClassId) (r ra o oa rL oL : Nat) (rn : Int32) (rf : Nat → Int32) (on : Int32) (of : Nat → Int32)  {rn_z : Int32} {rf_z : Nat → Int32} (hf : f_Row_become rL oL rn rf on of = some (rn_z, rf_z)) : MetV l y_Row_become ws_Row_become rm_Row_become (dC, dI) vwCl [(cB, .byte), (cI, .int), (cJ, .long)] [.ref r, .ref o] (wd_Row_become r ra o oa cB cI cJ rL oL rn rf on of)  (wd_Row_become r ra o oa cB cI cJ rL oL rn_z rf_z on of) 0 0 :=
  s_ofv (bytes := cd_Row_become) (maxL := 2) (ret := none) (by decide) rfl (Nat.le_of_ble_eq_true rfl) (fun p e s m below meth c A ls C hK hA hP hD hS hl => k_Row_become_0 C hK hA rn rf on of hf hP hD hS (lv_sub hl [0, 1] rfl))

abbrev wd_Row_add (r ra : Nat) (cB cI cJ : ClassId) (rL : Nat) (rn : Int32) (rf : Nat → Int32) : va_W := [(r, .inr (1, [.ref ra, .int rn])), (ra, .inl (cB, rL, .inl rf))]
abbrev rm_Row_add : Room := { frames := 0, cells := 0, slots := 0, locals := 0 }
section
variable {p : Program} {l : Launch} {e : Env} {s : State} {m : MethodId} {args : Array Value} {below : List Frame} {meth : Method} {c : Code} {dC : Nat → ClassId} {dI : Nat → Nat → Nat} {A : Nat → Prop} {cB cI cJ : ClassId} {H : Heap} {locs : List Loc} {ls : Array Slot} {N : Nat} {r ra rL : Nat}
noncomputable def j_Row_add_0 (rL : Nat) (x1 : Int32) (rn : Int32) (rf : Nat → Int32)  : Option (Int32 × Int32 × (Nat → Int32)) :=
  (if rn < 0 then (some ((0 : Int32), rn, rf) : Option (Int32 × Int32 × (Nat → Int32))) else (if rn < (Int32.ofNat rL) then as_ (vp_in rn rL) ((some ((1 : Int32), (rn + (1 : Int32)), (upd rf rn.toNatClampNeg (vp_nar .byte (x1.toInt8.toInt32)))) : Option (Int32 × Int32 × (Nat → Int32)))) else (some ((0 : Int32), rn, rf) : Option (Int32 × Int32 × (Nat → Int32)))))
set_option maxHeartbeats 4000000 in
set_option maxRecDepth 100000 in
theorem k_Row_add_0 {r_z : Int32} {rn_z : Int32} {rf_z : Nat → Int32} (C : Fx p s m args meth c cd_Row_add 2 R_Row lw_g (some .boolean)) (hK : va_K (dC, dI) vwCl [(cB, .byte), (cI, .int), (cJ, .long)] s) (hA : ∀ q, s.heap.size ≤ q → A q) (x1 : Int32) (rn : Int32) (rf : Nat → Int32)  (hf : j_Row_add_0 rL x1 rn rf  = some (r_z, rn_z, rf_z)) (hP : va_P (dC, dI) vwCl (wd_Row_add r ra cB cI cJ rL rn rf) H) (hD : va_D A (wd_Row_add r ra cB cI cJ rL rn rf)) (hS : va_S A s.heap H locs) (hl : lv_has ls 2 [(0, .ref r), (1, .int x1)]) : W p l e rm_Row_add s m args below meth c H locs 0 0 (MQ below (sQi (dC, dI) vwCl [(cB, .byte), (cI, .int), (cJ, .long)] A r_z (wd_Row_add r ra cB cI cJ rL rn_z rf_z)) args s 0 0 A) (F0 m 0 ls []) := by
  obtain ⟨hx, hb, hml, hown, hts, hr, hlocks, hZ⟩ := id C
  unfold j_Row_add_0 at hf
  refine lv_aload_n hx hb d_Row_add_0 rfl (lv_at hl 0 rfl) ?_
  refine va_get (D := (dC, dI)) (ci := 1) (v := .int rn) (C := R_Row) (T := T_Row) (N := 2) hx hb hts w_0 hown hK hP 0 rfl rfl 1 (by decide) (hts _ w_1) (fun _ h9 => h9) rfl d_Row_add_1 ?_
  refine lv_if_lt (tgt := 19) hx hb d_Row_add_4 (by decide) (fun c_4 => ?_) (fun c_4 => ?_)
  · have hf := br_pos c_4 hf
    refine lv_iconst (v := 0) hx hb d_Row_add_19 (by decide) ?_
    cases hf
    exact s_zret hx hb hr (by decide) hlocks hP hK hD hS d_Row_add_20
  · have hf := br_neg c_4 hf
    refine lv_aload_n hx hb d_Row_add_7 rfl (lv_at hl 0 rfl) ?_
    refine va_get (D := (dC, dI)) (ci := 1) (v := .int rn) (C := R_Row) (T := T_Row) (N := 2) hx hb hts w_0 hown hK hP 0 rfl rfl 1 (by decide) (hts _ w_1) (fun _ h9 => h9) rfl d_Row_add_8 ?_
    refine lv_aload_n hx hb d_Row_add_11 rfl (lv_at hl 0 rfl) ?_
    refine va_get (D := (dC, dI)) (ci := 1) (v := .ref ra) (C := R_Row) (T := T_Row) (N := 2) hx hb hts w_0 hown hK hP 0 rfl rfl 0 (by decide) (hts _ w_2) (fun _ h9 => h9) rfl d_Row_add_12 ?_
    refine va_alen (v := (Int32.ofNat rL)) hx hb hK hP 1 0 rfl rfl rfl d_Row_add_15 ?_
    refine lv_icmp_lt (tgt := 21) hx hb d_Row_add_16 (by decide) (fun c_16 => ?_) (fun c_16 => ?_)
    · have hf := br_pos c_16 hf
      refine lv_aload_n hx hb d_Row_add_21 rfl (lv_at hl 0 rfl) ?_
      refine va_get (D := (dC, dI)) (ci := 1) (v := .ref ra) (C := R_Row) (T := T_Row) (N := 2) hx hb hts w_0 hown hK hP 0 rfl rfl 0 (by decide) (hts _ w_2) (fun _ h9 => h9) rfl d_Row_add_22 ?_
      refine lv_aload_n hx hb d_Row_add_25 rfl (lv_at hl 0 rfl) ?_
      refine va_get (D := (dC, dI)) (ci := 1) (v := .int rn) (C := R_Row) (T := T_Row) (N := 2) hx hb hts w_0 hown hK hP 0 rfl rfl 1 (by decide) (hts _ w_1) (fun _ h9 => h9) rfl d_Row_add_26 ?_
      refine lv_iload_n hx hb d_Row_add_29 rfl (lv_at hl 1 rfl) ?_
      refine lv_i2b (v := (x1.toInt8.toInt32)) hx hb d_Row_add_30 rfl ?_
      obtain ⟨h_in, hf⟩ := as_some hf
      refine va_bast hx hb hK hP hD hS 1 0 rfl rfl h_in d_Row_add_31 (fun H locs hP hD hS => ?_)
      have hP : va_P (dC, dI) vwCl (wd_Row_add r ra cB cI cJ rL rn (upd rf rn.toNatClampNeg (vp_nar .byte (x1.toInt8.toInt32)))) H := hP
      have hD : va_D A (wd_Row_add r ra cB cI cJ rL rn (upd rf rn.toNatClampNeg (vp_nar .byte (x1.toInt8.toInt32)))) := hD
      refine lv_aload_n hx hb d_Row_add_32 rfl (lv_at hl 0 rfl) ?_
      refine lv_dup hx hb d_Row_add_33 rfl ?_
      refine va_get (D := (dC, dI)) (ci := 1) (v := .int rn) (C := R_Row) (T := T_Row) (N := 2) hx hb hts w_0 hown hK hP 0 rfl rfl 1 (by decide) (hts _ w_1) (fun _ h9 => h9) rfl d_Row_add_34 ?_
      refine lv_iconst (v := 1) hx hb d_Row_add_37 (by decide) ?_
      refine lv_iadd hx hb d_Row_add_38 ?_
      refine va_put (D := (dC, dI)) (ci := 1) (v := .int (rn + (1 : Int32))) (ty := .int) (C := R_Row) (T := T_Row) (N := 2) hx hb hts w_0 ty_Row ty_Row_ok nm_Row hown hK hP hD hS 0 rfl rfl 1 (by decide) (hts _ w_1) (fun _ h9 => h9) rfl (by decide +kernel) rfl rfl (Nat.le_of_ble_eq_true rfl) d_Row_add_39 (fun H locs hP hD hS => ?_)
      have hP : va_P (dC, dI) vwCl (wd_Row_add r ra cB cI cJ rL (rn + (1 : Int32)) (upd rf rn.toNatClampNeg (vp_nar .byte (x1.toInt8.toInt32)))) H := hP
      have hD : va_D A (wd_Row_add r ra cB cI cJ rL (rn + (1 : Int32)) (upd rf rn.toNatClampNeg (vp_nar .byte (x1.toInt8.toInt32)))) := hD
      refine lv_iconst (v := 1) hx hb d_Row_add_42 (by decide) ?_
      cases hf
      exact s_zret hx hb hr (by decide) hlocks hP hK hD hS d_Row_add_43
    · have hf := br_neg c_16 hf
      refine lv_iconst (v := 0) hx hb d_Row_add_19 (by decide) ?_
      cases hf
      exact s_zret hx hb hr (by decide) hlocks hP hK hD hS d_Row_add_20
end
noncomputable abbrev f_Row_add (rL : Nat) (x1 : Int32) (rn : Int32) (rf : Nat → Int32) : Option (Int32 × Int32 × (Nat → Int32)) := j_Row_add_0 rL x1 rn rf
set_option maxRecDepth 100000 in
theorem c_Row_add (l : Launch) (dC : Nat → ClassId) (dI : Nat → Nat → Nat) (cB cI cJ : ClassId) (r ra rL : Nat) (rn : Int32) (rf : Nat → Int32) (x1 : Int32) {r_z : Int32} {rn_z : Int32} {rf_z : Nat → Int32} (hf : f_Row_add rL x1 rn rf = some (r_z, rn_z, rf_z)) : MetI l y_Row_add ws_Row_add rm_Row_add (dC, dI) vwCl [(cB, .byte), (cI, .int), (cJ, .long)] [.ref r, .int x1] (wd_Row_add r ra cB cI cJ rL rn rf) r_z (wd_Row_add r ra cB cI cJ rL rn_z rf_z) 0 0 :=
  s_ofi (bytes := cd_Row_add) (maxL := 2) (ret := (some .boolean)) (by decide) rfl (Nat.le_of_ble_eq_true rfl) (fun p e s m below meth c A ls C hK hA hP hD hS hl => k_Row_add_0 C hK hA x1 rn rf hf hP hD hS (lv_sub hl [0, 1] rfl))

abbrev wd_Row_word (r ra : Nat) (cB cI cJ : ClassId) (rL : Nat) (rn : Int32) (rf : Nat → Int32) : va_W := [(r, .inr (1, [.ref ra, .int rn])), (ra, .inl (cB, rL, .inl rf))]
abbrev rm_Row_word : Room := { frames := 0, cells := 0, slots := 0, locals := 0 }
section
variable {p : Program} {l : Launch} {e : Env} {s : State} {m : MethodId} {args : Array Value} {below : List Frame} {meth : Method} {c : Code} {dC : Nat → ClassId} {dI : Nat → Nat → Nat} {A : Nat → Prop} {cB cI cJ : ClassId} {H : Heap} {locs : List Loc} {ls : Array Slot} {N : Nat} {r ra rL : Nat}
noncomputable def j_Row_word_0 (rL : Nat) (x1 : Int32) (rn : Int32) (rf : Nat → Int32)  : Option (Int32) :=
  (if x1 < 0 then (some (0 : Int32) : Option (Int32)) else (if (rn - (4 : Int32)) < x1 then (some (0 : Int32) : Option (Int32)) else (if rn ≤ (Int32.ofNat rL) then as_ (vp_in x1 rL) (as_ (vp_in (x1 + (1 : Int32)) rL) (as_ (vp_in (x1 + (2 : Int32)) rL) (as_ (vp_in (x1 + (3 : Int32)) rL) ((some (((((rf x1.toNatClampNeg) &&& (255 : Int32)) ||| (((rf (x1 + (1 : Int32)).toNatClampNeg) &&& (255 : Int32)) <<< ((8 : Int32) &&& 31))) ||| (((rf (x1 + (2 : Int32)).toNatClampNeg) &&& (255 : Int32)) <<< ((16 : Int32) &&& 31))) ||| (((rf (x1 + (3 : Int32)).toNatClampNeg) &&& (255 : Int32)) <<< ((24 : Int32) &&& 31))) : Option (Int32)))))) else (some (0 : Int32) : Option (Int32)))))
set_option maxHeartbeats 4000000 in
set_option maxRecDepth 100000 in
theorem k_Row_word_0 {r_z : Int32} (C : Fx p s m args meth c cd_Row_word 2 R_Row lw_g (some .int)) (hK : va_K (dC, dI) vwCl [(cB, .byte), (cI, .int), (cJ, .long)] s) (hA : ∀ q, s.heap.size ≤ q → A q) (x1 : Int32) (rn : Int32) (rf : Nat → Int32)  (hf : j_Row_word_0 rL x1 rn rf  = some r_z) (hP : va_P (dC, dI) vwCl (wd_Row_word r ra cB cI cJ rL rn rf) H) (hD : va_D A (wd_Row_word r ra cB cI cJ rL rn rf)) (hS : va_S A s.heap H locs) (hl : lv_has ls 2 [(0, .ref r), (1, .int x1)]) : W p l e rm_Row_word s m args below meth c H locs 0 0 (MQ below (sQi (dC, dI) vwCl [(cB, .byte), (cI, .int), (cJ, .long)] A r_z (wd_Row_word r ra cB cI cJ rL rn rf)) args s 0 0 A) (F0 m 0 ls []) := by
  obtain ⟨hx, hb, hml, hown, hts, hr, hlocks, hZ⟩ := id C
  unfold j_Row_word_0 at hf
  refine lv_iload_n hx hb d_Row_word_0 rfl (lv_at hl 1 rfl) ?_
  refine lv_if_lt (tgt := 26) hx hb d_Row_word_1 (by decide) (fun c_1 => ?_) (fun c_1 => ?_)
  · have hf := br_pos c_1 hf
    refine lv_iconst (v := 0) hx hb d_Row_word_26 (by decide) ?_
    cases hf
    exact s_iret hx hb hr hlocks hP hK hD hS d_Row_word_27
  · have hf := br_neg c_1 hf
    refine lv_iload_n hx hb d_Row_word_4 rfl (lv_at hl 1 rfl) ?_
    refine lv_aload_n hx hb d_Row_word_5 rfl (lv_at hl 0 rfl) ?_
    refine va_get (D := (dC, dI)) (ci := 1) (v := .int rn) (C := R_Row) (T := T_Row) (N := 2) hx hb hts w_0 hown hK hP 0 rfl rfl 1 (by decide) (hts _ w_1) (fun _ h9 => h9) rfl d_Row_word_6 ?_
    refine lv_iconst (v := 4) hx hb d_Row_word_9 (by decide) ?_
    refine lv_isub hx hb d_Row_word_10 ?_
    refine lv_icmp_gt (tgt := 26) hx hb d_Row_word_11 (by decide) (fun c_11 => ?_) (fun c_11 => ?_)
    · have hf := br_pos c_11 hf
      refine lv_iconst (v := 0) hx hb d_Row_word_26 (by decide) ?_
      cases hf
      exact s_iret hx hb hr hlocks hP hK hD hS d_Row_word_27
    · have hf := br_neg c_11 hf
      refine lv_aload_n hx hb d_Row_word_14 rfl (lv_at hl 0 rfl) ?_
      refine va_get (D := (dC, dI)) (ci := 1) (v := .int rn) (C := R_Row) (T := T_Row) (N := 2) hx hb hts w_0 hown hK hP 0 rfl rfl 1 (by decide) (hts _ w_1) (fun _ h9 => h9) rfl d_Row_word_15 ?_
      refine lv_aload_n hx hb d_Row_word_18 rfl (lv_at hl 0 rfl) ?_
      refine va_get (D := (dC, dI)) (ci := 1) (v := .ref ra) (C := R_Row) (T := T_Row) (N := 2) hx hb hts w_0 hown hK hP 0 rfl rfl 0 (by decide) (hts _ w_2) (fun _ h9 => h9) rfl d_Row_word_19 ?_
      refine va_alen (v := (Int32.ofNat rL)) hx hb hK hP 1 0 rfl rfl rfl d_Row_word_22 ?_
      refine lv_icmp_le (tgt := 28) hx hb d_Row_word_23 (by decide) (fun c_23 => ?_) (fun c_23 => ?_)
      · have hf := br_pos c_23 hf
        refine lv_aload_n hx hb d_Row_word_28 rfl (lv_at hl 0 rfl) ?_
        refine va_get (D := (dC, dI)) (ci := 1) (v := .ref ra) (C := R_Row) (T := T_Row) (N := 2) hx hb hts w_0 hown hK hP 0 rfl rfl 0 (by decide) (hts _ w_2) (fun _ h9 => h9) rfl d_Row_word_29 ?_
        refine lv_iload_n hx hb d_Row_word_32 rfl (lv_at hl 1 rfl) ?_
        obtain ⟨h_in, hf⟩ := as_some hf
        refine va_bald hx hb hK hP 1 0 rfl rfl h_in d_Row_word_33 ?_
        refine lv_sipush (v := 255) hx hb d_Row_word_34 (by decide) ?_
        refine lv_iand hx hb d_Row_word_37 ?_
        refine lv_aload_n hx hb d_Row_word_38 rfl (lv_at hl 0 rfl) ?_
        refine va_get (D := (dC, dI)) (ci := 1) (v := .ref ra) (C := R_Row) (T := T_Row) (N := 2) hx hb hts w_0 hown hK hP 0 rfl rfl 0 (by decide) (hts _ w_2) (fun _ h9 => h9) rfl d_Row_word_39 ?_
        refine lv_iload_n hx hb d_Row_word_42 rfl (lv_at hl 1 rfl) ?_
        refine lv_iconst (v := 1) hx hb d_Row_word_43 (by decide) ?_
        refine lv_iadd hx hb d_Row_word_44 ?_
        obtain ⟨h_in, hf⟩ := as_some hf
        refine va_bald hx hb hK hP 1 0 rfl rfl h_in d_Row_word_45 ?_
        refine lv_sipush (v := 255) hx hb d_Row_word_46 (by decide) ?_
        refine lv_iand hx hb d_Row_word_49 ?_
        refine lv_bipush (v := 8) hx hb d_Row_word_50 (by decide) ?_
        refine lv_ishl hx hb d_Row_word_52 ?_
        refine lv_ior hx hb d_Row_word_53 ?_
        refine lv_aload_n hx hb d_Row_word_54 rfl (lv_at hl 0 rfl) ?_
        refine va_get (D := (dC, dI)) (ci := 1) (v := .ref ra) (C := R_Row) (T := T_Row) (N := 2) hx hb hts w_0 hown hK hP 0 rfl rfl 0 (by decide) (hts _ w_2) (fun _ h9 => h9) rfl d_Row_word_55 ?_
        refine lv_iload_n hx hb d_Row_word_58 rfl (lv_at hl 1 rfl) ?_
        refine lv_iconst (v := 2) hx hb d_Row_word_59 (by decide) ?_
        refine lv_iadd hx hb d_Row_word_60 ?_
        obtain ⟨h_in, hf⟩ := as_some hf
        refine va_bald hx hb hK hP 1 0 rfl rfl h_in d_Row_word_61 ?_
        refine lv_sipush (v := 255) hx hb d_Row_word_62 (by decide) ?_
        refine lv_iand hx hb d_Row_word_65 ?_
        refine lv_bipush (v := 16) hx hb d_Row_word_66 (by decide) ?_
        refine lv_ishl hx hb d_Row_word_68 ?_
        refine lv_ior hx hb d_Row_word_69 ?_
        refine lv_aload_n hx hb d_Row_word_70 rfl (lv_at hl 0 rfl) ?_
        refine va_get (D := (dC, dI)) (ci := 1) (v := .ref ra) (C := R_Row) (T := T_Row) (N := 2) hx hb hts w_0 hown hK hP 0 rfl rfl 0 (by decide) (hts _ w_2) (fun _ h9 => h9) rfl d_Row_word_71 ?_
        refine lv_iload_n hx hb d_Row_word_74 rfl (lv_at hl 1 rfl) ?_
        refine lv_iconst (v := 3) hx hb d_Row_word_75 (by decide) ?_
        refine lv_iadd hx hb d_Row_word_76 ?_
        obtain ⟨h_in, hf⟩ := as_some hf
        refine va_bald hx hb hK hP 1 0 rfl rfl h_in d_Row_word_77 ?_
        refine lv_sipush (v := 255) hx hb d_Row_word_78 (by decide) ?_
        refine lv_iand hx hb d_Row_word_81 ?_
        refine lv_bipush (v := 24) hx hb d_Row_word_82 (by decide) ?_
        refine lv_ishl hx hb d_Row_word_84 ?_
        refine lv_ior hx hb d_Row_word_85 ?_
        cases hf
        exact s_iret hx hb hr hlocks hP hK hD hS d_Row_word_86
      · have hf := br_neg c_23 hf
        refine lv_iconst (v := 0) hx hb d_Row_word_26 (by decide) ?_
        cases hf
        exact s_iret hx hb hr hlocks hP hK hD hS d_Row_word_27
end
noncomputable abbrev f_Row_word (rL : Nat) (x1 : Int32) (rn : Int32) (rf : Nat → Int32) : Option (Int32) := j_Row_word_0 rL x1 rn rf
set_option maxRecDepth 100000 in
theorem c_Row_word (l : Launch) (dC : Nat → ClassId) (dI : Nat → Nat → Nat) (cB cI cJ : ClassId) (r ra rL : Nat) (rn : Int32) (rf : Nat → Int32) (x1 : Int32) {r_z : Int32} (hf : f_Row_word rL x1 rn rf = some r_z) : MetI l y_Row_word ws_Row_word rm_Row_word (dC, dI) vwCl [(cB, .byte), (cI, .int), (cJ, .long)] [.ref r, .int x1] (wd_Row_word r ra cB cI cJ rL rn rf) r_z (wd_Row_word r ra cB cI cJ rL rn rf) 0 0 :=
  s_ofi (bytes := cd_Row_word) (maxL := 2) (ret := (some .int)) (by decide) rfl (Nat.le_of_ble_eq_true rfl) (fun p e s m below meth c A ls C hK hA hP hD hS hl => k_Row_word_0 C hK hA x1 rn rf hf hP hD hS (lv_sub hl [0, 1] rfl))

abbrev wd_Row_get (r ra : Nat) (cB cI cJ : ClassId) (rL : Nat) (rn : Int32) (rf : Nat → Int32) : va_W := [(r, .inr (1, [.ref ra, .int rn])), (ra, .inl (cB, rL, .inl rf))]
abbrev rm_Row_get : Room := { frames := 0, cells := 0, slots := 0, locals := 0 }
section
variable {p : Program} {l : Launch} {e : Env} {s : State} {m : MethodId} {args : Array Value} {below : List Frame} {meth : Method} {c : Code} {dC : Nat → ClassId} {dI : Nat → Nat → Nat} {A : Nat → Prop} {cB cI cJ : ClassId} {H : Heap} {locs : List Loc} {ls : Array Slot} {N : Nat} {r ra rL : Nat}
noncomputable def j_Row_get_0 (rL : Nat) (x1 : Int32) (rn : Int32) (rf : Nat → Int32)  : Option (Int32) :=
  (if x1 < 0 then (some (-1 : Int32) : Option (Int32)) else (if rn ≤ x1 then (some (-1 : Int32) : Option (Int32)) else (if (Int32.ofNat rL) ≤ x1 then (some (-1 : Int32) : Option (Int32)) else as_ (vp_in x1 rL) ((some ((rf x1.toNatClampNeg) &&& (255 : Int32)) : Option (Int32))))))
set_option maxHeartbeats 4000000 in
set_option maxRecDepth 100000 in
theorem k_Row_get_0 {r_z : Int32} (C : Fx p s m args meth c cd_Row_get 2 R_Row lw_g (some .int)) (hK : va_K (dC, dI) vwCl [(cB, .byte), (cI, .int), (cJ, .long)] s) (hA : ∀ q, s.heap.size ≤ q → A q) (x1 : Int32) (rn : Int32) (rf : Nat → Int32)  (hf : j_Row_get_0 rL x1 rn rf  = some r_z) (hP : va_P (dC, dI) vwCl (wd_Row_get r ra cB cI cJ rL rn rf) H) (hD : va_D A (wd_Row_get r ra cB cI cJ rL rn rf)) (hS : va_S A s.heap H locs) (hl : lv_has ls 2 [(0, .ref r), (1, .int x1)]) : W p l e rm_Row_get s m args below meth c H locs 0 0 (MQ below (sQi (dC, dI) vwCl [(cB, .byte), (cI, .int), (cJ, .long)] A r_z (wd_Row_get r ra cB cI cJ rL rn rf)) args s 0 0 A) (F0 m 0 ls []) := by
  obtain ⟨hx, hb, hml, hown, hts, hr, hlocks, hZ⟩ := id C
  unfold j_Row_get_0 at hf
  refine lv_iload_n hx hb d_Row_get_0 rfl (lv_at hl 1 rfl) ?_
  refine lv_if_lt (tgt := 34) hx hb d_Row_get_1 (by decide) (fun c_1 => ?_) (fun c_1 => ?_)
  · have hf := br_pos c_1 hf
    refine lv_iconst (v := -1) hx hb d_Row_get_34 (by decide) ?_
    cases hf
    exact s_iret hx hb hr hlocks hP hK hD hS d_Row_get_35
  · have hf := br_neg c_1 hf
    refine lv_iload_n hx hb d_Row_get_4 rfl (lv_at hl 1 rfl) ?_
    refine lv_aload_n hx hb d_Row_get_5 rfl (lv_at hl 0 rfl) ?_
    refine va_get (D := (dC, dI)) (ci := 1) (v := .int rn) (C := R_Row) (T := T_Row) (N := 2) hx hb hts w_0 hown hK hP 0 rfl rfl 1 (by decide) (hts _ w_1) (fun _ h9 => h9) rfl d_Row_get_6 ?_
    refine lv_icmp_ge (tgt := 34) hx hb d_Row_get_9 (by decide) (fun c_9 => ?_) (fun c_9 => ?_)
    · have hf := br_pos c_9 hf
      refine lv_iconst (v := -1) hx hb d_Row_get_34 (by decide) ?_
      cases hf
      exact s_iret hx hb hr hlocks hP hK hD hS d_Row_get_35
    · have hf := br_neg c_9 hf
      refine lv_iload_n hx hb d_Row_get_12 rfl (lv_at hl 1 rfl) ?_
      refine lv_aload_n hx hb d_Row_get_13 rfl (lv_at hl 0 rfl) ?_
      refine va_get (D := (dC, dI)) (ci := 1) (v := .ref ra) (C := R_Row) (T := T_Row) (N := 2) hx hb hts w_0 hown hK hP 0 rfl rfl 0 (by decide) (hts _ w_2) (fun _ h9 => h9) rfl d_Row_get_14 ?_
      refine va_alen (v := (Int32.ofNat rL)) hx hb hK hP 1 0 rfl rfl rfl d_Row_get_17 ?_
      refine lv_icmp_ge (tgt := 34) hx hb d_Row_get_18 (by decide) (fun c_18 => ?_) (fun c_18 => ?_)
      · have hf := br_pos c_18 hf
        refine lv_iconst (v := -1) hx hb d_Row_get_34 (by decide) ?_
        cases hf
        exact s_iret hx hb hr hlocks hP hK hD hS d_Row_get_35
      · have hf := br_neg c_18 hf
        refine lv_aload_n hx hb d_Row_get_21 rfl (lv_at hl 0 rfl) ?_
        refine va_get (D := (dC, dI)) (ci := 1) (v := .ref ra) (C := R_Row) (T := T_Row) (N := 2) hx hb hts w_0 hown hK hP 0 rfl rfl 0 (by decide) (hts _ w_2) (fun _ h9 => h9) rfl d_Row_get_22 ?_
        refine lv_iload_n hx hb d_Row_get_25 rfl (lv_at hl 1 rfl) ?_
        obtain ⟨h_in, hf⟩ := as_some hf
        refine va_bald hx hb hK hP 1 0 rfl rfl h_in d_Row_get_26 ?_
        refine lv_sipush (v := 255) hx hb d_Row_get_27 (by decide) ?_
        refine lv_iand hx hb d_Row_get_30 ?_
        refine lv_goto (tgt := 35) hx hb d_Row_get_31 (by decide) ?_
        cases hf
        exact s_iret hx hb hr hlocks hP hK hD hS d_Row_get_35
end
noncomputable abbrev f_Row_get (rL : Nat) (x1 : Int32) (rn : Int32) (rf : Nat → Int32) : Option (Int32) := j_Row_get_0 rL x1 rn rf
set_option maxRecDepth 100000 in
theorem c_Row_get (l : Launch) (dC : Nat → ClassId) (dI : Nat → Nat → Nat) (cB cI cJ : ClassId) (r ra rL : Nat) (rn : Int32) (rf : Nat → Int32) (x1 : Int32) {r_z : Int32} (hf : f_Row_get rL x1 rn rf = some r_z) : MetI l y_Row_get ws_Row_get rm_Row_get (dC, dI) vwCl [(cB, .byte), (cI, .int), (cJ, .long)] [.ref r, .int x1] (wd_Row_get r ra cB cI cJ rL rn rf) r_z (wd_Row_get r ra cB cI cJ rL rn rf) 0 0 :=
  s_ofi (bytes := cd_Row_get) (maxL := 2) (ret := (some .int)) (by decide) rfl (Nat.le_of_ble_eq_true rfl) (fun p e s m below meth c A ls C hK hA hP hD hS hl => k_Row_get_0 C hK hA x1 rn rf hf hP hD hS (lv_sub hl [0, 1] rfl))

abbrev wd_Row_same (r ra : Nat) (cB cI cJ : ClassId) (rL : Nat) (rn : Int32) (rf : Nat → Int32) : va_W := [(r, .inr (1, [.ref ra, .int rn])), (ra, .inl (cB, rL, .inl rf))]
abbrev rm_Row_same : Room := { frames := 1, cells := 0, slots := 0, locals := 13 }
section
variable {p : Program} {l : Launch} {e : Env} {s : State} {m : MethodId} {args : Array Value} {below : List Frame} {meth : Method} {c : Code} {dC : Nat → ClassId} {dI : Nat → Nat → Nat} {A : Nat → Prop} {cB cI cJ : ClassId} {H : Heap} {locs : List Loc} {ls : Array Slot} {N : Nat} {r ra rL : Nat}
noncomputable def b_Row_same_38 (rL : Nat) (x1 : Int32) (x2 : Int32) (x4 : Int32) (rf : Nat → Int32)  (kh38 : Int32 → Option (Int32)) (x5 : Int32) : Option (Int32) :=
  (if x4 ≤ x5 then (some (mx (0 : Int32) x4) : Option (Int32)) else as_ (vp_in (x1 + x5) rL) (as_ (vp_in (x2 + x5) rL) ((if (rf (x1 + x5).toNatClampNeg) = (rf (x2 + x5).toNatClampNeg) then (kh38 (x5 + 1)) else (some x5 : Option (Int32))))))
set_option maxHeartbeats 4000000 in
set_option maxRecDepth 100000 in
theorem k_Row_same_38 {r_z : Int32} (C : Fx p s m args meth c cd_Row_same 6 R_Row lw_g (some .int)) (hK : va_K (dC, dI) vwCl [(cB, .byte), (cI, .int), (cJ, .long)] s) (hA : ∀ q, s.heap.size ≤ q → A q) (x1 : Int32) (x2 : Int32) (x4 : Int32) (rn : Int32) (rf : Nat → Int32)  : ∀ (n : Nat) (x5 : Int32), loop1 (b_Row_same_38 rL x1 x2 x4 rf ) n x5 = some r_z → ∀ (H : Heap) (locs : List Loc), va_P (dC, dI) vwCl (wd_Row_same r ra cB cI cJ rL rn rf) H → va_D A (wd_Row_same r ra cB cI cJ rL rn rf) → va_S A s.heap H locs → ∀ (ls : Array Slot), lv_has ls 6 [(0, .ref r), (1, .int x1), (2, .int x2), (4, .int x4), (5, .int x5)] → W p l e rm_Row_same s m args below meth c H locs 0 0 (MQ below (sQi (dC, dI) vwCl [(cB, .byte), (cI, .int), (cJ, .long)] A r_z (wd_Row_same r ra cB cI cJ rL rn rf)) args s 0 0 A) (F0 m 38 ls []) := by
  obtain ⟨hx, hb, hml, hown, hts, hr, hlocks, hZ⟩ := id C
  intro n
  induction n with
  | zero => intro x5 hf; cases hf
  | succ n ih38 =>
    intro x5 hf H locs hP hD hS ls hl
    have hf : b_Row_same_38 rL x1 x2 x4 rf  (loop1 (b_Row_same_38 rL x1 x2 x4 rf ) n) x5 = some r_z := hf
    generalize loop1 (b_Row_same_38 rL x1 x2 x4 rf ) n = kh38 at hf ih38
    unfold b_Row_same_38 at hf
    refine lv_iload hx hb d_Row_same_38 (lv_at hl 4 rfl) ?_
    refine lv_iload hx hb d_Row_same_40 (lv_at hl 3 rfl) ?_
    refine lv_icmp_ge (tgt := 75) hx hb d_Row_same_42 (by decide) (fun c_42 => ?_) (fun c_42 => ?_)
    · have hf := br_pos c_42 hf
      refine lv_iconst (v := 0) hx hb d_Row_same_75 (by decide) ?_
      refine lv_iload hx hb d_Row_same_76 (lv_at hl 3 rfl) ?_
      refine s_mmax hx hb (hml.trans hl.1.symm) hown (hts _ w_26) (hts _ w_27) (hts _ w_24) (hts _ w_28) (Nat.le_of_ble_eq_true rfl) (Nat.le_of_ble_eq_true rfl) (Nat.zero_le _) (Nat.zero_le _) d_Row_same_78 ?_
      cases hf
      exact s_iret hx hb hr hlocks hP hK hD hS d_Row_same_81
    · have hf := br_neg c_42 hf
      refine lv_aload_n hx hb d_Row_same_45 rfl (lv_at hl 0 rfl) ?_
      refine va_get (D := (dC, dI)) (ci := 1) (v := .ref ra) (C := R_Row) (T := T_Row) (N := 2) hx hb hts w_0 hown hK hP 0 rfl rfl 0 (by decide) (hts _ w_2) (fun _ h9 => h9) rfl d_Row_same_46 ?_
      refine lv_iload_n hx hb d_Row_same_49 rfl (lv_at hl 1 rfl) ?_
      refine lv_iload hx hb d_Row_same_50 (lv_at hl 4 rfl) ?_
      refine lv_iadd hx hb d_Row_same_52 ?_
      obtain ⟨h_in, hf⟩ := as_some hf
      refine va_bald hx hb hK hP 1 0 rfl rfl h_in d_Row_same_53 ?_
      refine lv_aload_n hx hb d_Row_same_54 rfl (lv_at hl 0 rfl) ?_
      refine va_get (D := (dC, dI)) (ci := 1) (v := .ref ra) (C := R_Row) (T := T_Row) (N := 2) hx hb hts w_0 hown hK hP 0 rfl rfl 0 (by decide) (hts _ w_2) (fun _ h9 => h9) rfl d_Row_same_55 ?_
      refine lv_iload_n hx hb d_Row_same_58 rfl (lv_at hl 2 rfl) ?_
      refine lv_iload hx hb d_Row_same_59 (lv_at hl 4 rfl) ?_
      refine lv_iadd hx hb d_Row_same_61 ?_
      obtain ⟨h_in, hf⟩ := as_some hf
      refine va_bald hx hb hK hP 1 0 rfl rfl h_in d_Row_same_62 ?_
      refine lv_icmp_eq (tgt := 69) hx hb d_Row_same_63 (by decide) (fun c_63 => ?_) (fun c_63 => ?_)
      · have hf := br_pos c_63 hf
        refine lv_iinc (v := (x5 + 1)) (lv' := [(5, .int (x5 + 1)), (0, .ref r), (1, .int x1), (2, .int x2), (4, .int x4)]) hx hb d_Row_same_69 hl (k := 4) rfl (congrArg (fun z => x5 + z) (by decide)) (by decide) rfl (fun ls hl => ?_)
        refine lv_goto (tgt := 38) hx hb d_Row_same_72 (by decide) ?_
        exact ih38 (x5 + 1) hf _ _ hP hD hS _ (lv_sub hl [1, 2, 3, 4, 0] rfl)
      · have hf := br_neg c_63 hf
        refine lv_iload hx hb d_Row_same_66 (lv_at hl 4 rfl) ?_
        cases hf
        exact s_iret hx hb hr hlocks hP hK hD hS d_Row_same_68
noncomputable def j_Row_same_0 (N : Nat) (rL : Nat) (x1 : Int32) (x2 : Int32) (x3 : Int32) (rn : Int32) (rf : Nat → Int32)  : Option (Int32) :=
  (if x1 < 0 then (some (0 : Int32) : Option (Int32)) else (if x2 < x1 then (some (0 : Int32) : Option (Int32)) else (if rn ≤ (Int32.ofNat rL) then (loop1 (b_Row_same_38 rL x1 x2 ((mn x3 rn) - x2) rf ) N (0 : Int32)) else (some (0 : Int32) : Option (Int32)))))
set_option maxHeartbeats 4000000 in
set_option maxRecDepth 100000 in
theorem k_Row_same_0 {r_z : Int32} (C : Fx p s m args meth c cd_Row_same 6 R_Row lw_g (some .int)) (hK : va_K (dC, dI) vwCl [(cB, .byte), (cI, .int), (cJ, .long)] s) (hA : ∀ q, s.heap.size ≤ q → A q) (x1 : Int32) (x2 : Int32) (x3 : Int32) (rn : Int32) (rf : Nat → Int32)  (hf : j_Row_same_0 N rL x1 x2 x3 rn rf  = some r_z) (hP : va_P (dC, dI) vwCl (wd_Row_same r ra cB cI cJ rL rn rf) H) (hD : va_D A (wd_Row_same r ra cB cI cJ rL rn rf)) (hS : va_S A s.heap H locs) (hl : lv_has ls 6 [(0, .ref r), (1, .int x1), (2, .int x2), (3, .int x3)]) : W p l e rm_Row_same s m args below meth c H locs 0 0 (MQ below (sQi (dC, dI) vwCl [(cB, .byte), (cI, .int), (cJ, .long)] A r_z (wd_Row_same r ra cB cI cJ rL rn rf)) args s 0 0 A) (F0 m 0 ls []) := by
  obtain ⟨hx, hb, hml, hown, hts, hr, hlocks, hZ⟩ := id C
  unfold j_Row_same_0 at hf
  refine lv_iload_n hx hb d_Row_same_0 rfl (lv_at hl 3 rfl) ?_
  refine lv_aload_n hx hb d_Row_same_1 rfl (lv_at hl 0 rfl) ?_
  refine va_get (D := (dC, dI)) (ci := 1) (v := .int rn) (C := R_Row) (T := T_Row) (N := 2) hx hb hts w_0 hown hK hP 0 rfl rfl 1 (by decide) (hts _ w_1) (fun _ h9 => h9) rfl d_Row_same_2 ?_
  refine s_mmin hx hb (hml.trans hl.1.symm) hown (hts _ w_22) (hts _ w_23) (hts _ w_24) (hts _ w_25) (Nat.le_of_ble_eq_true rfl) (Nat.le_of_ble_eq_true rfl) (Nat.zero_le _) (Nat.zero_le _) d_Row_same_5 ?_
  refine lv_iload_n hx hb d_Row_same_8 rfl (lv_at hl 2 rfl) ?_
  refine lv_isub hx hb d_Row_same_9 ?_
  refine lv_istore (lv' := [(4, .int ((mn x3 rn) - x2)), (0, .ref r), (1, .int x1), (2, .int x2), (3, .int x3)]) hx hb d_Row_same_10 hl (by decide) rfl (fun ls hl => ?_)
  refine lv_iload_n hx hb d_Row_same_12 rfl (lv_at hl 2 rfl) ?_
  refine lv_if_lt (tgt := 33) hx hb d_Row_same_13 (by decide) (fun c_13 => ?_) (fun c_13 => ?_)
  · have hf := br_pos c_13 hf
    refine lv_iconst (v := 0) hx hb d_Row_same_33 (by decide) ?_
    cases hf
    exact s_iret hx hb hr hlocks hP hK hD hS d_Row_same_34
  · have hf := br_neg c_13 hf
    refine lv_iload_n hx hb d_Row_same_16 rfl (lv_at hl 2 rfl) ?_
    refine lv_iload_n hx hb d_Row_same_17 rfl (lv_at hl 3 rfl) ?_
    refine lv_icmp_gt (tgt := 33) hx hb d_Row_same_18 (by decide) (fun c_18 => ?_) (fun c_18 => ?_)
    · have hf := br_pos c_18 hf
      refine lv_iconst (v := 0) hx hb d_Row_same_33 (by decide) ?_
      cases hf
      exact s_iret hx hb hr hlocks hP hK hD hS d_Row_same_34
    · have hf := br_neg c_18 hf
      refine lv_aload_n hx hb d_Row_same_21 rfl (lv_at hl 1 rfl) ?_
      refine va_get (D := (dC, dI)) (ci := 1) (v := .int rn) (C := R_Row) (T := T_Row) (N := 2) hx hb hts w_0 hown hK hP 0 rfl rfl 1 (by decide) (hts _ w_1) (fun _ h9 => h9) rfl d_Row_same_22 ?_
      refine lv_aload_n hx hb d_Row_same_25 rfl (lv_at hl 1 rfl) ?_
      refine va_get (D := (dC, dI)) (ci := 1) (v := .ref ra) (C := R_Row) (T := T_Row) (N := 2) hx hb hts w_0 hown hK hP 0 rfl rfl 0 (by decide) (hts _ w_2) (fun _ h9 => h9) rfl d_Row_same_26 ?_
      refine va_alen (v := (Int32.ofNat rL)) hx hb hK hP 1 0 rfl rfl rfl d_Row_same_29 ?_
      refine lv_icmp_le (tgt := 35) hx hb d_Row_same_30 (by decide) (fun c_30 => ?_) (fun c_30 => ?_)
      · have hf := br_pos c_30 hf
        refine lv_iconst (v := 0) hx hb d_Row_same_35 (by decide) ?_
        refine lv_istore (lv' := [(5, .int (0 : Int32)), (4, .int ((mn x3 rn) - x2)), (0, .ref r), (1, .int x1), (2, .int x2), (3, .int x3)]) hx hb d_Row_same_36 hl (by decide) rfl (fun ls hl => ?_)
        exact k_Row_same_38 C hK hA x1 x2 ((mn x3 rn) - x2) rn rf  N (0 : Int32) hf _ _ hP hD hS _ (lv_sub hl [2, 3, 4, 1, 0] rfl)
      · have hf := br_neg c_30 hf
        refine lv_iconst (v := 0) hx hb d_Row_same_33 (by decide) ?_
        cases hf
        exact s_iret hx hb hr hlocks hP hK hD hS d_Row_same_34
end
noncomputable abbrev f_Row_same (N : Nat) (rL : Nat) (x1 : Int32) (x2 : Int32) (x3 : Int32) (rn : Int32) (rf : Nat → Int32) : Option (Int32) := j_Row_same_0 N rL x1 x2 x3 rn rf
set_option maxRecDepth 100000 in
theorem c_Row_same {N : Nat} (l : Launch) (dC : Nat → ClassId) (dI : Nat → Nat → Nat) (cB cI cJ : ClassId) (r ra rL : Nat) (rn : Int32) (rf : Nat → Int32) (x1 : Int32) (x2 : Int32) (x3 : Int32) {r_z : Int32} (hf : f_Row_same N rL x1 x2 x3 rn rf = some r_z) : MetI l y_Row_same ws_Row_same rm_Row_same (dC, dI) vwCl [(cB, .byte), (cI, .int), (cJ, .long)] [.ref r, .int x1, .int x2, .int x3] (wd_Row_same r ra cB cI cJ rL rn rf) r_z (wd_Row_same r ra cB cI cJ rL rn rf) 0 0 :=
  s_ofi (bytes := cd_Row_same) (maxL := 6) (ret := (some .int)) (by decide) rfl (Nat.le_of_ble_eq_true rfl) (fun p e s m below meth c A ls C hK hA hP hD hS hl => k_Row_same_0 C hK hA x1 x2 x3 rn rf hf hP hD hS (lv_sub hl [0, 1, 2, 3] rfl))
