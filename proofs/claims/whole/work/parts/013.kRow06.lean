abbrev wd_Row_word (r ra : Nat) (cB cI cJ : ClassId) (rL : Nat) (rn : Int32) (rf : Nat → Int32) : va_W := [(r, .inr (1, [.ref ra, .int rn])), (ra, .inl (cB, rL, .inl rf))]
abbrev rm_Row_word : Room := { frames := 0, cells := 0, slots := 0, locals := 0 }
section
variable {p : Program} {l : Launch} {e : Env} {s : State} {m : MethodId} {args : Array Value} {below : List Frame} {meth : Method} {c : Code} {dC : Nat → ClassId} {dI : Nat → Nat → Nat} {A : Nat → Prop} {cB cI cJ : ClassId} {H : Heap} {locs : List Loc} {ls : Array Slot} {N : Nat} {r ra rL : Nat}
noncomputable def j_Row_word_0 (rL : Nat) (x1 : Int32) (rn : Int32) (rf : Nat → Int32)  : Option (Int32) :=
  (if x1 < 0 then (some (0 : Int32) : Option (Int32)) else (if (rn - (4 : Int32)) < x1 then (some (0 : Int32) : Option (Int32)) else (if rn ≤ (Int32.ofNat rL) then as_ (vp_in x1 rL) (as_ (vp_in (x1 + (1 : Int32)) rL) (as_ (vp_in (x1 + (2 : Int32)) rL) (as_ (vp_in (x1 + (3 : Int32)) rL) ((some (((((rf x1.toNatClampNeg) &&& (255 : Int32)) ||| (((rf (x1 + (1 : Int32)).toNatClampNeg) &&& (255 : Int32)) <<< ((8 : Int32) &&& 31))) ||| (((rf (x1 + (2 : Int32)).toNatClampNeg) &&& (255 : Int32)) <<< ((16 : Int32) &&& 31))) ||| (((rf (x1 + (3 : Int32)).toNatClampNeg) &&& (255 : Int32)) <<< ((24 : Int32) &&& 31))) : Option (Int32)))))) else (some (0 : Int32) : Option (Int32)))))
set_option maxHeartbeats 4000000 in
set_option maxRecDepth 100000 in
theorem k_Row_word_0 {r_z : Int32} (C : Fx p s m args meth c cd_Row_word 2 R_Row lw_g (some .int)) (hK : va_K (dC, dI) vwCl [(cB, .byte), (cI, .int), (cJ, .long)] s) (hA : ∀ q, s.heap.size ≤ q → A q) (x1 : Int32) (rn : Int32) (rf : Nat → Int32)  (hf : j_Row_word_0 rL x1 rn rf  = some r_z) (hP : va_P (dC, dI) vwCl (wd_Row_word r ra cB cI cJ rL rn rf) H) (hD : va_D A (wd_Row_word r ra cB cI cJ rL rn rf)) (hS : va_S A s.heap H locs) (hl : lv_has ls 2 [(0, .ref r), (1, .int x1)]) : W p l e rm_Row_word s m args below meth c H locs 0 0 (MQ below (sQi (dC, dI) vwCl [(cB, .byte), (cI, .int), (cJ, .long)] A r_z (wd_Row_word r ra cB cI cJ rL rn rf)) args s 0 0 A) (F0 m 0 ls []) := by
  obtain ⟨hx, hb, hml, hown, hts, hr, hlocks, hZ⟩ := id C
  unfold j_Row_word_0 at hf
  refine lv_iload_n hx hb d_Row_word_0 rfl (lv_at hl 1 rfl) ?_
  refine lv_if_lt (tgt := 26) hx hb d_Row_word_1 (by decide) (fun c_1 => ?_) (fun c_1 => ?_)
  · have hf := br_pos c_1 hf
    refine lv_iconst (v := 0) hx hb d_Row_word_26 (by decide) ?_
    cases hf
    exact s_iret hx hb hr hlocks hP hK hD hS d_Row_word_27
  · have hf := br_neg c_1 hf
    refine lv_iload_n hx hb d_Row_word_4 rfl (lv_at hl 1 rfl) ?_
    refine lv_aload_n hx hb d_Row_word_5 rfl (lv_at hl 0 rfl) ?_
    refine va_get (D := (dC, dI)) (ci := 1) (v := .int rn) (C := R_Row) (T := T_Row) (N := 2) hx hb hts w_0 hown hK hP 0 rfl rfl 1 (by decide) (hts _ w_1) (fun _ h9 => h9) rfl d_Row_word_6 ?_
    refine lv_iconst (v := 4) hx hb d_Row_word_9 (by decide) ?_
    refine lv_isub hx hb d_Row_word_10 ?_
    refine lv_icmp_gt (tgt := 26) hx hb d_Row_word_11 (by decide) (fun c_11 => ?_) (fun c_11 => ?_)
    · have hf := br_pos c_11 hf
      refine lv_iconst (v := 0) hx hb d_Row_word_26 (by decide) ?_
      cases hf
      exact s_iret hx hb hr hlocks hP hK hD hS d_Row_word_27
    · have hf := br_neg c_11 hf
      refine lv_aload_n hx hb d_Row_word_14 rfl (lv_at hl 0 rfl) ?_
      refine va_get (D := (dC, dI)) (ci := 1) (v := .int rn) (C := R_Row) (T := T_Row) (N := 2) hx hb hts w_0 hown hK hP 0 rfl rfl 1 (by decide) (hts _ w_1) (fun _ h9 => h9) rfl d_Row_word_15 ?_
      refine lv_aload_n hx hb d_Row_word_18 rfl (lv_at hl 0 rfl) ?_
      refine va_get (D := (dC, dI)) (ci := 1) (v := .ref ra) (C := R_Row) (T := T_Row) (N := 2) hx hb hts w_0 hown hK hP 0 rfl rfl 0 (by decide) (hts _ w_2) (fun _ h9 => h9) rfl d_Row_word_19 ?_
      refine va_alen (v := (Int32.ofNat rL)) hx hb hK hP 1 0 rfl rfl rfl d_Row_word_22 ?_
      refine lv_icmp_le (tgt := 28) hx hb d_Row_word_23 (by decide) (fun c_23 => ?_) (fun c_23 => ?_)
      · have hf := br_pos c_23 hf
        refine lv_aload_n hx hb d_Row_word_28 rfl (lv_at hl 0 rfl) ?_
        refine va_get (D := (dC, dI)) (ci := 1) (v := .ref ra) (C := R_Row) (T := T_Row) (N := 2) hx hb hts w_0 hown hK hP 0 rfl rfl 0 (by decide) (hts _ w_2) (fun _ h9 => h9) rfl d_Row_word_29 ?_
        refine lv_iload_n hx hb d_Row_word_32 rfl (lv_at hl 1 rfl) ?_
        obtain ⟨h_in, hf⟩ := as_some hf
        refine va_bald hx hb hK hP 1 0 rfl rfl h_in d_Row_word_33 ?_
        refine lv_sipush (v := 255) hx hb d_Row_word_34 (by decide) ?_
        refine lv_iand hx hb d_Row_word_37 ?_
        refine lv_aload_n hx hb d_Row_word_38 rfl (lv_at hl 0 rfl) ?_
        refine va_get (D := (dC, dI)) (ci := 1) (v := .ref ra) (C := R_Row) (T := T_Row) (N := 2) hx hb hts w_0 hown hK hP 0 rfl rfl 0 (by decide) (hts _ w_2) (fun _ h9 => h9) rfl d_Row_word_39 ?_
        refine lv_iload_n hx hb d_Row_word_42 rfl (lv_at hl 1 rfl) ?_
        refine lv_iconst (v := 1) hx hb d_Row_word_43 (by decide) ?_
        refine lv_iadd hx hb d_Row_word_44 ?_
        obtain ⟨h_in, hf⟩ := as_some hf
        refine va_bald hx hb hK hP 1 0 rfl rfl h_in d_Row_word_45 ?_
        refine lv_sipush (v := 255) hx hb d_Row_word_46 (by decide) ?_
        refine lv_iand hx hb d_Row_word_49 ?_
        refine lv_bipush (v := 8) hx hb d_Row_word_50 (by decide) ?_
        refine lv_ishl hx hb d_Row_word_52 ?_
        refine lv_ior hx hb d_Row_word_53 ?_
        refine lv_aload_n hx hb d_Row_word_54 rfl (lv_at hl 0 rfl) ?_
        refine va_get (D := (dC, dI)) (ci := 1) (v := .ref ra) (C := R_Row) (T := T_Row) (N := 2) hx hb hts w_0 hown hK hP 0 rfl rfl 0 (by decide) (hts _ w_2) (fun _ h9 => h9) rfl d_Row_word_55 ?_
        refine lv_iload_n hx hb d_Row_word_58 rfl (lv_at hl 1 rfl) ?_
        refine lv_iconst (v := 2) hx hb d_Row_word_59 (by decide) ?_
        refine lv_iadd hx hb d_Row_word_60 ?_
        obtain ⟨h_in, hf⟩ := as_some hf
        refine va_bald hx hb hK hP 1 0 rfl rfl h_in d_Row_word_61 ?_
        refine lv_sipush (v := 255) hx hb d_Row_word_62 (by decide) ?_
        refine lv_iand hx hb d_Row_word_65 ?_
        refine lv_bipush (v := 16) hx hb d_Row_word_66 (by decide) ?_
        refine lv_ishl hx hb d_Row_word_68 ?_
        refine lv_ior hx hb d_Row_word_69 ?_
        refine lv_aload_n hx hb d_Row_word_70 rfl (lv_at hl 0 rfl) ?_
        refine va_get (D := (dC, dI)) (ci := 1) (v := .ref ra) (C := R_Row) (T := T_Row) (N := 2) hx hb hts w_0 hown hK hP 0 rfl rfl 0 (by decide) (hts _ w_2) (fun _ h9 => h9) rfl d_Row_word_71 ?_
        refine lv_iload_n hx hb d_Row_word_74 rfl (lv_at hl 1 rfl) ?_
        refine lv_iconst (v := 3) hx hb d_Row_word_75 (by decide) ?_
        refine lv_iadd hx hb d_Row_word_76 ?_
        obtain ⟨h_in, hf⟩ := as_some hf
        refine va_bald hx hb hK hP 1 0 rfl rfl h_in d_Row_word_77 ?_
        refine lv_sipush (v := 255) hx hb d_Row_word_78 (by decide) ?_
        refine lv_iand hx hb d_Row_word_81 ?_
        refine lv_bipush (v := 24) hx hb d_Row_word_82 (by decide) ?_
        refine lv_ishl hx hb d_Row_word_84 ?_
        refine lv_ior hx hb d_Row_word_85 ?_
        cases hf
        exact s_iret hx hb hr hlocks hP hK hD hS d_Row_word_86
      · have hf := br_neg c_23 hf
        refine lv_iconst (v := 0) hx hb d_Row_word_26 (by decide) ?_
        cases hf
        exact s_iret hx hb hr hlocks hP hK hD hS d_Row_word_27
end
noncomputable abbrev f_Row_word (rL : Nat) (x1 : Int32) (rn : Int32) (rf : Nat → Int32) : Option (Int32) := j_Row_word_0 rL x1 rn rf
set_option maxRecDepth 100000 in
theorem c_Row_word (l : Launch) (dC : Nat → ClassId) (dI : Nat → Nat → Nat) (cB cI cJ : ClassId) (r ra rL : Nat) (rn : Int32) (rf : Nat → Int32) (x1 : Int32) {r_z : Int32} (hf : f_Row_word rL x1 rn rf = some r_z) : MetI l y_Row_word ws_Row_word rm_Row_word (dC, dI) vwCl [(cB, .byte), (cI, .int), (cJ, .long)] [.ref r, .int x1] (wd_Row_word r ra cB cI cJ rL rn rf) r_z (wd_Row_word r ra cB cI cJ rL rn rf) 0 0 :=
  s_ofi (bytes := cd_Row_word) (maxL := 2) (ret := (some .int)) (by decide) rfl (Nat.le_of_ble_eq_true rfl) (fun p e s m below meth c A ls C hK hA hP hD hS hl => k_Row_word_0 C hK hA x1 rn rf hf hP hD hS (lv_sub hl [0, 1] rfl))
