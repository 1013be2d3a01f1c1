abbrev wd_Row_get (r ra : Nat) (cB cI cJ : ClassId) (rL : Nat) (rn : Int32) (rf : Nat → Int32) : va_W := [(r, .inr (1, [.ref ra, .int rn])), (ra, .inl (cB, rL, .inl rf))]
abbrev rm_Row_get : Room := { frames := 0, cells := 0, slots := 0, locals := 0 }
section
variable {p : Program} {l : Launch} {e : Env} {s : State} {m : MethodId} {args : Array Value} {below : List Frame} {meth : Method} {c : Code} {dC : Nat → ClassId} {dI : Nat → Nat → Nat} {A : Nat → Prop} {cB cI cJ : ClassId} {H : Heap} {locs : List Loc} {ls : Array Slot} {N : Nat} {r ra rL : Nat}
noncomputable def j_Row_get_0 (rL : Nat) (x1 : Int32) (rn : Int32) (rf : Nat → Int32)  : Option (Int32) :=
  (if x1 < 0 then (some (-1 : Int32) : Option (Int32)) else (if rn ≤ x1 then (some (-1 : Int32) : Option (Int32)) else (if (Int32.ofNat rL) ≤ x1 then (some (-1 : Int32) : Option (Int32)) else as_ (vp_in x1 rL) ((some ((rf x1.toNatClampNeg) &&& (255 : Int32)) : Option (Int32))))))
set_option maxHeartbeats 4000000 in
set_option maxRecDepth 100000 in
theorem k_Row_get_0 {r_z : Int32} (C : Fx p s m args meth c cd_Row_get 2 R_Row lw_g (some .int)) (hK : va_K (dC, dI) vwCl [(cB, .byte), (cI, .int), (cJ, .long)] s) (hA : ∀ q, s.heap.size ≤ q → A q) (x1 : Int32) (rn : Int32) (rf : Nat → Int32)  (hf : j_Row_get_0 rL x1 rn rf  = some r_z) (hP : va_P (dC, dI) vwCl (wd_Row_get r ra cB cI cJ rL rn rf) H) (hD : va_D A (wd_Row_get r ra cB cI cJ rL rn rf)) (hS : va_S A s.heap H locs) (hl : lv_has ls 2 [(0, .ref r), (1, .int x1)]) : W p l e rm_Row_get s m args below meth c H locs 0 0 (MQ below (sQi (dC, dI) vwCl [(cB, .byte), (cI, .int), (cJ, .long)] A r_z (wd_Row_get r ra cB cI cJ rL rn rf)) args s 0 0 A) (F0 m 0 ls []) := by
  obtain ⟨hx, hb, hml, hown, hts, hr, hlocks, hZ⟩ := id C
  unfold j_Row_get_0 at hf
  refine lv_iload_n hx hb d_Row_get_0 rfl (lv_at hl 1 rfl) ?_
  refine lv_if_lt (tgt := 34) hx hb d_Row_get_1 (by decide) (fun c_1 => ?_) (fun c_1 => ?_)
  · have hf := br_pos c_1 hf
    refine lv_iconst (v := -1) hx hb d_Row_get_34 (by decide) ?_
    cases hf
    exact s_iret hx hb hr hlocks hP hK hD hS d_Row_get_35
  · have hf := br_neg c_1 hf
    refine lv_iload_n hx hb d_Row_get_4 rfl (lv_at hl 1 rfl) ?_
    refine lv_aload_n hx hb d_Row_get_5 rfl (lv_at hl 0 rfl) ?_
    refine va_get (D := (dC, dI)) (ci := 1) (v := .int rn) (C := R_Row) (T := T_Row) (N := 2) hx hb hts w_0 hown hK hP 0 rfl rfl 1 (by decide) (hts _ w_1) (fun _ h9 => h9) rfl d_Row_get_6 ?_
    refine lv_icmp_ge (tgt := 34) hx hb d_Row_get_9 (by decide) (fun c_9 => ?_) (fun c_9 => ?_)
    · have hf := br_pos c_9 hf
      refine lv_iconst (v := -1) hx hb d_Row_get_34 (by decide) ?_
      cases hf
      exact s_iret hx hb hr hlocks hP hK hD hS d_Row_get_35
    · have hf := br_neg c_9 hf
      refine lv_iload_n hx hb d_Row_get_12 rfl (lv_at hl 1 rfl) ?_
      refine lv_aload_n hx hb d_Row_get_13 rfl (lv_at hl 0 rfl) ?_
      refine va_get (D := (dC, dI)) (ci := 1) (v := .ref ra) (C := R_Row) (T := T_Row) (N := 2) hx hb hts w_0 hown hK hP 0 rfl rfl 0 (by decide) (hts _ w_2) (fun _ h9 => h9) rfl d_Row_get_14 ?_
      refine va_alen (v := (Int32.ofNat rL)) hx hb hK hP 1 0 rfl rfl rfl d_Row_get_17 ?_
      refine lv_icmp_ge (tgt := 34) hx hb d_Row_get_18 (by decide) (fun c_18 => ?_) (fun c_18 => ?_)
      · have hf := br_pos c_18 hf
        refine lv_iconst (v := -1) hx hb d_Row_get_34 (by decide) ?_
        cases hf
        exact s_iret hx hb hr hlocks hP hK hD hS d_Row_get_35
      · have hf := br_neg c_18 hf
        refine lv_aload_n hx hb d_Row_get_21 rfl (lv_at hl 0 rfl) ?_
        refine va_get (D := (dC, dI)) (ci := 1) (v := .ref ra) (C := R_Row) (T := T_Row) (N := 2) hx hb hts w_0 hown hK hP 0 rfl rfl 0 (by decide) (hts _ w_2) (fun _ h9 => h9) rfl d_Row_get_22 ?_
        refine lv_iload_n hx hb d_Row_get_25 rfl (lv_at hl 1 rfl) ?_
        obtain ⟨h_in, hf⟩ := as_some hf
        refine va_bald hx hb hK hP 1 0 rfl rfl h_in d_Row_get_26 ?_
        refine lv_sipush (v := 255) hx hb d_Row_get_27 (by decide) ?_
        refine lv_iand hx hb d_Row_get_30 ?_
        refine lv_goto (tgt := 35) hx hb d_Row_get_31 (by decide) ?_
        cases hf
        exact s_iret hx hb hr hlocks hP hK hD hS d_Row_get_35
end
noncomputable abbrev f_Row_get (rL : Nat) (x1 : Int32) (rn : Int32) (rf : Nat → Int32) : Option (Int32) := j_Row_get_0 rL x1 rn rf
set_option maxRecDepth 100000 in
theorem c_Row_get (l : Launch) (dC : Nat → ClassId) (dI : Nat → Nat → Nat) (cB cI cJ : ClassId) (r ra rL : Nat) (rn : Int32) (rf : Nat → Int32) (x1 : Int32) {r_z : Int32} (hf : f_Row_get rL x1 rn rf = some r_z) : MetI l y_Row_get ws_Row_get rm_Row_get (dC, dI) vwCl [(cB, .byte), (cI, .int), (cJ, .long)] [.ref r, .int x1] (wd_Row_get r ra cB cI cJ rL rn rf) r_z (wd_Row_get r ra cB cI cJ rL rn rf) 0 0 :=
  s_ofi (bytes := cd_Row_get) (maxL := 2) (ret := (some .int)) (by decide) rfl (Nat.le_of_ble_eq_true rfl) (fun p e s m below meth c A ls C hK hA hP hD hS hl => k_Row_get_0 C hK hA x1 rn rf hf hP hD hS (lv_sub hl [0, 1] rfl))
