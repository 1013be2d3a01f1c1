abbrev wd_Row_addWord (r ra : Nat) (cB cI cJ : ClassId) (rL : Nat) (rn : Int32) (rf : Nat → Int32) : va_W := [(r, .inr (1, [.ref ra, .int rn])), (ra, .inl (cB, rL, .inl rf))]
abbrev rm_Row_addWord : Room := { frames := 1, cells := 0, slots := 0, locals := 21 }
section
variable {p : Program} {l : Launch} {e : Env} {s : State} {m : MethodId} {args : Array Value} {below : List Frame} {meth : Method} {c : Code} {dC : Nat → ClassId} {dI : Nat → Nat → Nat} {A : Nat → Prop} {cB cI cJ : ClassId} {H : Heap} {locs : List Loc} {ls : Array Slot} {N : Nat} {r ra rL : Nat}
noncomputable def j_Row_addWord_0 (rL : Nat) (x1 : Int32) (rn : Int32) (rf : Nat → Int32)  : Option (Int32 × Int32 × (Nat → Int32)) :=
  bd3 (f_Row_add rL x1 rn rf) (fun r2 rn_2 rf_2 => (if r2 = 0 then (some ((0 : Int32), rn_2, rf_2) : Option (Int32 × Int32 × (Nat → Int32))) else bd3 (f_Row_add rL (x1 >>> ((8 : Int32) &&& 31)) rn_2 rf_2) (fun r13 rn_13 rf_13 => (if r13 = 0 then (some ((0 : Int32), rn_13, rf_13) : Option (Int32 × Int32 × (Nat → Int32))) else bd3 (f_Row_add rL (x1 >>> ((16 : Int32) &&& 31)) rn_13 rf_13) (fun r24 rn_24 rf_24 => (if r24 = 0 then (some ((0 : Int32), rn_24, rf_24) : Option (Int32 × Int32 × (Nat → Int32))) else bd3 (f_Row_add rL (x1 >>> ((24 : Int32) &&& 31)) rn_24 rf_24) (fun r35 rn_35 rf_35 => (if r35 = 0 then (some ((0 : Int32), rn_35, rf_35) : Option (Int32 × Int32 × (Nat → Int32))) else (some ((1 : Int32), rn_35, rf_35) : Option (Int32 × Int32 × (Nat → Int32)))))))))))
set_option maxHeartbeats 4000000 in
set_option maxRecDepth 100000 in
theorem k_Row_addWord_0 {r_z : Int32} {rn_z : Int32} {rf_z : Nat → Int32} (C : Fx p s m args meth c cd_Row_addWord 2 R_Row lw_g (some .boolean)) (hK : va_K (dC, dI) vwCl [(cB, .byte), (cI, .int), (cJ, .long)] s) (hA : ∀ q, s.heap.size ≤ q → A q) (x1 : Int32) (rn : Int32) (rf : Nat → Int32)  (hf : j_Row_addWord_0 rL x1 rn rf  = some (r_z, rn_z, rf_z)) (hP : va_P (dC, dI) vwCl (wd_Row_addWord r ra cB cI cJ rL rn rf) H) (hD : va_D A (wd_Row_addWord r ra cB cI cJ rL rn rf)) (hS : va_S A s.heap H locs) (hl : lv_has ls 2 [(0, .ref r), (1, .int x1)]) : W p l e rm_Row_addWord s m args below meth c H locs 0 0 (MQ below (sQi (dC, dI) vwCl [(cB, .byte), (cI, .int), (cJ, .long)] A r_z (wd_Row_addWord r ra cB cI cJ rL rn_z rf_z)) args s 0 0 A) (F0 m 0 ls []) := by
  obtain ⟨hx, hb, hml, hown, hts, hr, hlocks, hZ⟩ := id C
  unfold j_Row_addWord_0 at hf
  refine lv_aload_n hx hb d_Row_addWord_0 rfl (lv_at hl 0 rfl) ?_
  refine lv_iload_n hx hb d_Row_addWord_1 rfl (lv_at hl 1 rfl) ?_
  obtain ⟨r2, rn_2, rf_2, hc2, hf⟩ := bd3_some hf
  refine s_Vi (As := [.int x1]) (rest := []) (wr := []) (ws' := wd_Row_addWord r ra cB cI cJ rL rn_2 rf_2) C.call (c_Row_add l dC dI cB cI cJ r ra rL rn rf x1 hc2) (cwV 1 hts (gd_V w_165 w_41 w_42 w_12 w_43) rfl rfl rfl ⟨rfl, hd_Row_add⟩ ⟨Nat.le_of_ble_eq_true rfl, Nat.le_of_ble_eq_true rfl⟩) rfl hl.1 rfl (Nat.le_of_ble_eq_true rfl) d_Row_addWord_2 ⟨Nat.le_of_ble_eq_true rfl, Nat.le_of_ble_eq_true rfl⟩ hZ hK hP hD hS hA 1 0 rfl rfl [0, 1] [] [0, 1] rfl rfl rfl rfl (by decide) rfl rfl (fun H locs hP hD hS => ?_)
  refine lv_if_eq (tgt := 45) hx hb d_Row_addWord_5 (by decide) (fun c_5 => ?_) (fun c_5 => ?_)
  · have hf := br_pos c_5 hf
    refine lv_iconst (v := 0) hx hb d_Row_addWord_45 (by decide) ?_
    cases hf
    exact s_zret hx hb hr (by decide) hlocks hP hK hD hS d_Row_addWord_46
  · have hf := br_neg c_5 hf
    refine lv_aload_n hx hb d_Row_addWord_8 rfl (lv_at hl 0 rfl) ?_
    refine lv_iload_n hx hb d_Row_addWord_9 rfl (lv_at hl 1 rfl) ?_
    refine lv_bipush (v := 8) hx hb d_Row_addWord_10 (by decide) ?_
    refine lv_ishr hx hb d_Row_addWord_12 ?_
    obtain ⟨r13, rn_13, rf_13, hc13, hf⟩ := bd3_some hf
    refine s_Vi (As := [.int (x1 >>> ((8 : Int32) &&& 31))]) (rest := []) (wr := []) (ws' := wd_Row_addWord r ra cB cI cJ rL rn_13 rf_13) C.call (c_Row_add l dC dI cB cI cJ r ra rL rn_2 rf_2 (x1 >>> ((8 : Int32) &&& 31)) hc13) (cwV 1 hts (gd_V w_165 w_41 w_42 w_12 w_43) rfl rfl rfl ⟨rfl, hd_Row_add⟩ ⟨Nat.le_of_ble_eq_true rfl, Nat.le_of_ble_eq_true rfl⟩) rfl hl.1 rfl (Nat.le_of_ble_eq_true rfl) d_Row_addWord_13 ⟨Nat.le_of_ble_eq_true rfl, Nat.le_of_ble_eq_true rfl⟩ hZ hK hP hD hS hA 1 0 rfl rfl [0, 1] [] [0, 1] rfl rfl rfl rfl (by decide) rfl rfl (fun H locs hP hD hS => ?_)
    refine lv_if_eq (tgt := 45) hx hb d_Row_addWord_16 (by decide) (fun c_16 => ?_) (fun c_16 => ?_)
    · have hf := br_pos c_16 hf
      refine lv_iconst (v := 0) hx hb d_Row_addWord_45 (by decide) ?_
      cases hf
      exact s_zret hx hb hr (by decide) hlocks hP hK hD hS d_Row_addWord_46
    · have hf := br_neg c_16 hf
      refine lv_aload_n hx hb d_Row_addWord_19 rfl (lv_at hl 0 rfl) ?_
      refine lv_iload_n hx hb d_Row_addWord_20 rfl (lv_at hl 1 rfl) ?_
      refine lv_bipush (v := 16) hx hb d_Row_addWord_21 (by decide) ?_
      refine lv_ishr hx hb d_Row_addWord_23 ?_
      obtain ⟨r24, rn_24, rf_24, hc24, hf⟩ := bd3_some hf
      refine s_Vi (As := [.int (x1 >>> ((16 : Int32) &&& 31))]) (rest := []) (wr := []) (ws' := wd_Row_addWord r ra cB cI cJ rL rn_24 rf_24) C.call (c_Row_add l dC dI cB cI cJ r ra rL rn_13 rf_13 (x1 >>> ((16 : Int32) &&& 31)) hc24) (cwV 1 hts (gd_V w_165 w_41 w_42 w_12 w_43) rfl rfl rfl ⟨rfl, hd_Row_add⟩ ⟨Nat.le_of_ble_eq_true rfl, Nat.le_of_ble_eq_true rfl⟩) rfl hl.1 rfl (Nat.le_of_ble_eq_true rfl) d_Row_addWord_24 ⟨Nat.le_of_ble_eq_true rfl, Nat.le_of_ble_eq_true rfl⟩ hZ hK hP hD hS hA 1 0 rfl rfl [0, 1] [] [0, 1] rfl rfl rfl rfl (by decide) rfl rfl (fun H locs hP hD hS => ?_)
      refine lv_if_eq (tgt := 45) hx hb d_Row_addWord_27 (by decide) (fun c_27 => ?_) (fun c_27 => ?_)
      · have hf := br_pos c_27 hf
        refine lv_iconst (v := 0) hx hb d_Row_addWord_45 (by decide) ?_
        cases hf
        exact s_zret hx hb hr (by decide) hlocks hP hK hD hS d_Row_addWord_46
      · have hf := br_neg c_27 hf
        refine lv_aload_n hx hb d_Row_addWord_30 rfl (lv_at hl 0 rfl) ?_
        refine lv_iload_n hx hb d_Row_addWord_31 rfl (lv_at hl 1 rfl) ?_
        refine lv_bipush (v := 24) hx hb d_Row_addWord_32 (by decide) ?_
        refine lv_ishr hx hb d_Row_addWord_34 ?_
        obtain ⟨r35, rn_35, rf_35, hc35, hf⟩ := bd3_some hf
        refine s_Vi (As := [.int (x1 >>> ((24 : Int32) &&& 31))]) (rest := []) (wr := []) (ws' := wd_Row_addWord r ra cB cI cJ rL rn_35 rf_35) C.call (c_Row_add l dC dI cB cI cJ r ra rL rn_24 rf_24 (x1 >>> ((24 : Int32) &&& 31)) hc35) (cwV 1 hts (gd_V w_165 w_41 w_42 w_12 w_43) rfl rfl rfl ⟨rfl, hd_Row_add⟩ ⟨Nat.le_of_ble_eq_true rfl, Nat.le_of_ble_eq_true rfl⟩) rfl hl.1 rfl (Nat.le_of_ble_eq_true rfl) d_Row_addWord_35 ⟨Nat.le_of_ble_eq_true rfl, Nat.le_of_ble_eq_true rfl⟩ hZ hK hP hD hS hA 1 0 rfl rfl [0, 1] [] [0, 1] rfl rfl rfl rfl (by decide) rfl rfl (fun H locs hP hD hS => ?_)
        refine lv_if_eq (tgt := 45) hx hb d_Row_addWord_38 (by decide) (fun c_38 => ?_) (fun c_38 => ?_)
        · have hf := br_pos c_38 hf
          refine lv_iconst (v := 0) hx hb d_Row_addWord_45 (by decide) ?_
          cases hf
          exact s_zret hx hb hr (by decide) hlocks hP hK hD hS d_Row_addWord_46
        · have hf := br_neg c_38 hf
          refine lv_iconst (v := 1) hx hb d_Row_addWord_41 (by decide) ?_
          refine lv_goto (tgt := 46) hx hb d_Row_addWord_42 (by decide) ?_
          cases hf
          exact s_zret hx hb hr (by decide) hlocks hP hK hD hS d_Row_addWord_46
end
noncomputable abbrev f_Row_addWord (rL : Nat) (x1 : Int32) (rn : Int32) (rf : Nat → Int32) : Option (Int32 × Int32 × (Nat → Int32)) := j_Row_addWord_0 rL x1 rn rf
set_option maxRecDepth 100000 in
theorem c_Row_addWord (l : Launch) (dC : Nat → ClassId) (dI : Nat → Nat → Nat) (cB cI cJ : ClassId) (r ra rL : Nat) (rn : Int32) (rf : Nat → Int32) (x1 : Int32) {r_z : Int32} {rn_z : Int32} {rf_z : Nat → Int32} (hf : f_Row_addWord rL x1 rn rf = some (r_z, rn_z, rf_z)) : MetI l y_Row_addWord ws_Row_addWord rm_Row_addWord (dC, dI) vwCl [(cB, .byte), (cI, .int), (cJ, .long)] [.ref r, .int x1] (wd_Row_addWord r ra cB cI cJ rL rn rf) r_z (wd_Row_addWord r ra cB cI cJ rL rn_z rf_z) 0 0 :=
  s_ofi (bytes := cd_Row_addWord) (maxL := 2) (ret := (some .boolean)) (by decide) rfl (Nat.le_of_ble_eq_true rfl) (fun p e s m below meth c A ls C hK hA hP hD hS hl => k_Row_addWord_0 C hK hA x1 rn rf hf hP hD hS (lv_sub hl [0, 1] rfl))

abbrev wd_Row_pair (r ra : Nat) (cB cI cJ : ClassId) (rL : Nat) (rn : Int32) (rf : Nat → Int32) : va_W := [(r, .inr (1, [.ref ra, .int rn])), (ra, .inl (cB, rL, .inl rf))]
abbrev rm_Row_pair : Room := { frames := 0, cells := 0, slots := 0, locals := 0 }
section
variable {p : Program} {l : Launch} {e : Env} {s : State} {m : MethodId} {args : Array Value} {below : List Frame} {meth : Method} {c : Code} {dC : Nat → ClassId} {dI : Nat → Nat → Nat} {A : Nat → Prop} {cB cI cJ : ClassId} {H : Heap} {locs : List Loc} {ls : Array Slot} {N : Nat} {r ra rL : Nat}
noncomputable def j_Row_pair_0 (rL : Nat) (x1 : Int32) (rn : Int32) (rf : Nat → Int32)  : Option (Int32) :=
  (if x1 < 0 then (some (0 : Int32) : Option (Int32)) else (if (rn - (2 : Int32)) < x1 then (some (0 : Int32) : Option (Int32)) else (if rn ≤ (Int32.ofNat rL) then as_ (vp_in x1 rL) (as_ (vp_in (x1 + (1 : Int32)) rL) ((some (((rf x1.toNatClampNeg) &&& (255 : Int32)) ||| (((rf (x1 + (1 : Int32)).toNatClampNeg) &&& (255 : Int32)) <<< ((8 : Int32) &&& 31))) : Option (Int32)))) else (some (0 : Int32) : Option (Int32)))))
set_option maxHeartbeats 4000000 in
set_option maxRecDepth 100000 in
theorem k_Row_pair_0 {r_z : Int32} (C : Fx p s m args meth c cd_Row_pair 2 R_Row lw_g (some .int)) (hK : va_K (dC, dI) vwCl [(cB, .byte), (cI, .int), (cJ, .long)] s) (hA : ∀ q, s.heap.size ≤ q → A q) (x1 : Int32) (rn : Int32) (rf : Nat → Int32)  (hf : j_Row_pair_0 rL x1 rn rf  = some r_z) (hP : va_P (dC, dI) vwCl (wd_Row_pair r ra cB cI cJ rL rn rf) H) (hD : va_D A (wd_Row_pair r ra cB cI cJ rL rn rf)) (hS : va_S A s.heap H locs) (hl : lv_has ls 2 [(0, .ref r), (1, .int x1)]) : W p l e rm_Row_pair s m args below meth c H locs 0 0 (MQ below (sQi (dC, dI) vwCl [(cB, .byte), (cI, .int), (cJ, .long)] A r_z (wd_Row_pair r ra cB cI cJ rL rn rf)) args s 0 0 A) (F0 m 0 ls []) := by
  obtain ⟨hx, hb, hml, hown, hts, hr, hlocks, hZ⟩ := id C
  unfold j_Row_pair_0 at hf
  refine lv_iload_n hx hb d_Row_pair_0 rfl (lv_at hl 1 rfl) ?_
  refine lv_if_lt (tgt := 26) hx hb d_Row_pair_1 (by decide) (fun c_1 => ?_) (fun c_1 => ?_)
  · have hf := br_pos c_1 hf
    refine lv_iconst (v := 0) hx hb d_Row_pair_26 (by decide) ?_
    cases hf
    exact s_iret hx hb hr hlocks hP hK hD hS d_Row_pair_27
  · have hf := br_neg c_1 hf
    refine lv_iload_n hx hb d_Row_pair_4 rfl (lv_at hl 1 rfl) ?_
    refine lv_aload_n hx hb d_Row_pair_5 rfl (lv_at hl 0 rfl) ?_
    refine va_get (D := (dC, dI)) (ci := 1) (v := .int rn) (C := R_Row) (T := T_Row) (N := 2) hx hb hts w_0 hown hK hP 0 rfl rfl 1 (by decide) (hts _ w_1) (fun _ h9 => h9) rfl d_Row_pair_6 ?_
    refine lv_iconst (v := 2) hx hb d_Row_pair_9 (by decide) ?_
    refine lv_isub hx hb d_Row_pair_10 ?_
    refine lv_icmp_gt (tgt := 26) hx hb d_Row_pair_11 (by decide) (fun c_11 => ?_) (fun c_11 => ?_)
    · have hf := br_pos c_11 hf
      refine lv_iconst (v := 0) hx hb d_Row_pair_26 (by decide) ?_
      cases hf
      exact s_iret hx hb hr hlocks hP hK hD hS d_Row_pair_27
    · have hf := br_neg c_11 hf
      refine lv_aload_n hx hb d_Row_pair_14 rfl (lv_at hl 0 rfl) ?_
      refine va_get (D := (dC, dI)) (ci := 1) (v := .int rn) (C := R_Row) (T := T_Row) (N := 2) hx hb hts w_0 hown hK hP 0 rfl rfl 1 (by decide) (hts _ w_1) (fun _ h9 => h9) rfl d_Row_pair_15 ?_
      refine lv_aload_n hx hb d_Row_pair_18 rfl (lv_at hl 0 rfl) ?_
      refine va_get (D := (dC, dI)) (ci := 1) (v := .ref ra) (C := R_Row) (T := T_Row) (N := 2) hx hb hts w_0 hown hK hP 0 rfl rfl 0 (by decide) (hts _ w_2) (fun _ h9 => h9) rfl d_Row_pair_19 ?_
      refine va_alen (v := (Int32.ofNat rL)) hx hb hK hP 1 0 rfl rfl rfl d_Row_pair_22 ?_
      refine lv_icmp_le (tgt := 28) hx hb d_Row_pair_23 (by decide) (fun c_23 => ?_) (fun c_23 => ?_)
      · have hf := br_pos c_23 hf
        refine lv_aload_n hx hb d_Row_pair_28 rfl (lv_at hl 0 rfl) ?_
        refine va_get (D := (dC, dI)) (ci := 1) (v := .ref ra) (C := R_Row) (T := T_Row) (N := 2) hx hb hts w_0 hown hK hP 0 rfl rfl 0 (by decide) (hts _ w_2) (fun _ h9 => h9) rfl d_Row_pair_29 ?_
        refine lv_iload_n hx hb d_Row_pair_32 rfl (lv_at hl 1 rfl) ?_
        obtain ⟨h_in, hf⟩ := as_some hf
        refine va_bald hx hb hK hP 1 0 rfl rfl h_in d_Row_pair_33 ?_
        refine lv_sipush (v := 255) hx hb d_Row_pair_34 (by decide) ?_
        refine lv_iand hx hb d_Row_pair_37 ?_
        refine lv_aload_n hx hb d_Row_pair_38 rfl (lv_at hl 0 rfl) ?_
        refine va_get (D := (dC, dI)) (ci := 1) (v := .ref ra) (C := R_Row) (T := T_Row) (N := 2) hx hb hts w_0 hown hK hP 0 rfl rfl 0 (by decide) (hts _ w_2) (fun _ h9 => h9) rfl d_Row_pair_39 ?_
        refine lv_iload_n hx hb d_Row_pair_42 rfl (lv_at hl 1 rfl) ?_
        refine lv_iconst (v := 1) hx hb d_Row_pair_43 (by decide) ?_
        refine lv_iadd hx hb d_Row_pair_44 ?_
        obtain ⟨h_in, hf⟩ := as_some hf
        refine va_bald hx hb hK hP 1 0 rfl rfl h_in d_Row_pair_45 ?_
        refine lv_sipush (v := 255) hx hb d_Row_pair_46 (by decide) ?_
        refine lv_iand hx hb d_Row_pair_49 ?_
        refine lv_bipush (v := 8) hx hb d_Row_pair_50 (by decide) ?_
        refine lv_ishl hx hb d_Row_pair_52 ?_
        refine lv_ior hx hb d_Row_pair_53 ?_
        cases hf
        exact s_iret hx hb hr hlocks hP hK hD hS d_Row_pair_54
      · have hf := br_neg c_23 hf
        refine lv_iconst (v := 0) hx hb d_Row_pair_26 (by decide) ?_
        cases hf
        exact s_iret hx hb hr hlocks hP hK hD hS d_Row_pair_27
end
noncomputable abbrev f_Row_pair (rL : Nat) (x1 : Int32) (rn : Int32) (rf : Nat → Int32) : Option (Int32) := j_Row_pair_0 rL x1 rn rf
set_option maxRecDepth 100000 in
theorem c_Row_pair (l : Launch) (dC : Nat → ClassId) (dI : Nat → Nat → Nat) (cB cI cJ : ClassId) (r ra rL : Nat) (rn : Int32) (rf : Nat → Int32) (x1 : Int32) {r_z : Int32} (hf : f_Row_pair rL x1 rn rf = some r_z) : MetI l y_Row_pair ws_Row_pair rm_Row_pair (dC, dI) vwCl [(cB, .byte), (cI, .int), (cJ, .long)] [.ref r, .int x1] (wd_Row_pair r ra cB cI cJ rL rn rf) r_z (wd_Row_pair r ra cB cI cJ rL rn rf) 0 0 :=
  s_ofi (bytes := cd_Row_pair) (maxL := 2) (ret := (some .int)) (by decide) rfl (Nat.le_of_ble_eq_true rfl) (fun p e s m below meth c A ls C hK hA hP hD hS hl => k_Row_pair_0 C hK hA x1 rn rf hf hP hD hS (lv_sub hl [0, 1] rfl))

abbrev rm_Row_init8 : Room := { frames := 1, cells := 1, slots := 8000, locals := 14 }
abbrev wn_Row_init8 (cB cI cJ : ClassId) (h0 : Nat) : (Nat) → va_W := (fun (u : Nat) => ([(h0, .inr (1, [.ref u, .int (0 : Int32)])), (u, .inl (cB, 8000, .inl (fun _ => 0)))] : va_W))
set_option maxHeartbeats 4000000 in
set_option maxRecDepth 100000 in
theorem c_Row_init8 (l : Launch) (dC : Nat → ClassId) (dI : Nat → Nat → Nat) (cB cI cJ : ClassId) (h0 : Nat) : MetN l y_Row_init ws_Row_init rm_Row_init8 (dC, dI) vwCl [(cB, .byte), (cI, .int), (cJ, .long)] [.ref h0, .int (8000 : Int32)] [(h0, .inr (1, [.null, .int (0 : Int32)]))] (wn_Row_init8 cB cI cJ h0 ) 1 8000 := by
  refine s_ofn (bytes := cd_Row_init) (maxL := 2) (ret := none) (by decide) rfl (Nat.le_of_ble_eq_true rfl) ?_
  intro p e s m below meth c A ls C hin hK hA hP hD hS hl
  obtain ⟨hx, hb, hml, hown, hts, hr, hlocks, hZ⟩ := id C
  have hl : lv_has ls 2 [(0, .ref h0), (1, .int (8000 : Int32))] := hl
  refine lv_aload_n hx hb d_Row_init_0 rfl (lv_at hl 0 rfl) ?_
  refine W.objInit hx hb hown (hts _ w_494) (hts _ w_495) (hts _ w_496) rfl (by rw [hml]; exact hl.1) rfl d_Row_init_1 (Nat.le_of_ble_eq_true rfl) (Nat.le_of_ble_eq_true rfl) ?_
  refine W.eq (g2 := F0 m 4 ls []) rfl ?_
  refine lv_aload_n hx hb d_Row_init_4 rfl (lv_at hl 0 rfl) ?_
  refine lv_iconst (v := 0) hx hb d_Row_init_5 (by decide) ?_
  refine lv_iload_n hx hb d_Row_init_6 rfl (lv_at hl 1 rfl) ?_
  refine s_mmax hx hb (hml.trans hl.1.symm) hown (hts _ w_26) (hts _ w_27) (hts _ w_24) (hts _ w_28) (Nat.le_of_ble_eq_true rfl) (Nat.le_of_ble_eq_true rfl) (Nat.le_of_ble_eq_true rfl) (Nat.le_of_ble_eq_true rfl) d_Row_init_7 ?_
  refine s_newB (k0 := 8000) 0 hx hb (hts _ w_497) rfl hK hP hD hS hA (by decide) (by decide) (Nat.le_of_ble_eq_true rfl) (Nat.le_of_ble_eq_true rfl) (Nat.le_of_ble_eq_true rfl) d_Row_init_10 (fun q10 H hP hD hS => ?_)
  have hP : va_P (dC, dI) vwCl [(h0, .inr (1, [.null, .int (0 : Int32)])), (q10, .inl (cB, 8000, .inl (fun _ => 0)))] H := hP
  have hD : va_D A [(h0, .inr (1, [.null, .int (0 : Int32)])), (q10, .inl (cB, 8000, .inl (fun _ => 0)))] := hD
  refine W.widen (k := 1) (n := 8000) (Nat.le_of_ble_eq_true rfl) (Nat.le_of_ble_eq_true rfl) ?_
  refine va_putF (D := (dC, dI)) (ci := 1) (v := .ref q10) (ty := .array .byte) (C := R_Row) (T := T_Row) (N := 2) hx hb hts w_0 ty_Row ty_Row_ok nm_Row hown hK hP hD hS 0 rfl rfl 0 (by decide) (hts _ w_2) (fun _ h9 => h9) rfl hin rfl (by decide +kernel) rfl rfl (Nat.le_of_ble_eq_true rfl) d_Row_init_12 (fun H locs hP hD hS => ?_)
  have hP : va_P (dC, dI) vwCl [(h0, .inr (1, [.ref q10, .int (0 : Int32)])), (q10, .inl (cB, 8000, .inl (fun _ => 0)))] H := hP
  have hD : va_D A [(h0, .inr (1, [.ref q10, .int (0 : Int32)])), (q10, .inl (cB, 8000, .inl (fun _ => 0)))] := hD
  exact s_nret (wn := wn_Row_init8 cB cI cJ h0 ) q10 hx hb hr hlocks hP hK hD hS d_Row_init_15

abbrev rm_Row_init16 : Room := { frames := 1, cells := 1, slots := 16000, locals := 14 }
abbrev wn_Row_init16 (cB cI cJ : ClassId) (h0 : Nat) : (Nat) → va_W := (fun (u : Nat) => ([(h0, .inr (1, [.ref u, .int (0 : Int32)])), (u, .inl (cB, 16000, .inl (fun _ => 0)))] : va_W))
set_option maxHeartbeats 4000000 in
set_option maxRecDepth 100000 in
theorem c_Row_init16 (l : Launch) (dC : Nat → ClassId) (dI : Nat → Nat → Nat) (cB cI cJ : ClassId) (h0 : Nat) : MetN l y_Row_init ws_Row_init rm_Row_init16 (dC, dI) vwCl [(cB, .byte), (cI, .int), (cJ, .long)] [.ref h0, .int (16000 : Int32)] [(h0, .inr (1, [.null, .int (0 : Int32)]))] (wn_Row_init16 cB cI cJ h0 ) 1 16000 := by
  refine s_ofn (bytes := cd_Row_init) (maxL := 2) (ret := none) (by decide) rfl (Nat.le_of_ble_eq_true rfl) ?_
  intro p e s m below meth c A ls C hin hK hA hP hD hS hl
  obtain ⟨hx, hb, hml, hown, hts, hr, hlocks, hZ⟩ := id C
  have hl : lv_has ls 2 [(0, .ref h0), (1, .int (16000 : Int32))] := hl
  refine lv_aload_n hx hb d_Row_init_0 rfl (lv_at hl 0 rfl) ?_
  refine W.objInit hx hb hown (hts _ w_494) (hts _ w_495) (hts _ w_496) rfl (by rw [hml]; exact hl.1) rfl d_Row_init_1 (Nat.le_of_ble_eq_true rfl) (Nat.le_of_ble_eq_true rfl) ?_
  refine W.eq (g2 := F0 m 4 ls []) rfl ?_
  refine lv_aload_n hx hb d_Row_init_4 rfl (lv_at hl 0 rfl) ?_
  refine lv_iconst (v := 0) hx hb d_Row_init_5 (by decide) ?_
  refine lv_iload_n hx hb d_Row_init_6 rfl (lv_at hl 1 rfl) ?_
  refine s_mmax hx hb (hml.trans hl.1.symm) hown (hts _ w_26) (hts _ w_27) (hts _ w_24) (hts _ w_28) (Nat.le_of_ble_eq_true rfl) (Nat.le_of_ble_eq_true rfl) (Nat.le_of_ble_eq_true rfl) (Nat.le_of_ble_eq_true rfl) d_Row_init_7 ?_
  refine s_newB (k0 := 16000) 0 hx hb (hts _ w_497) rfl hK hP hD hS hA (by decide) (by decide) (Nat.le_of_ble_eq_true rfl) (Nat.le_of_ble_eq_true rfl) (Nat.le_of_ble_eq_true rfl) d_Row_init_10 (fun q10 H hP hD hS => ?_)
  have hP : va_P (dC, dI) vwCl [(h0, .inr (1, [.null, .int (0 : Int32)])), (q10, .inl (cB, 16000, .inl (fun _ => 0)))] H := hP
  have hD : va_D A [(h0, .inr (1, [.null, .int (0 : Int32)])), (q10, .inl (cB, 16000, .inl (fun _ => 0)))] := hD
  refine W.widen (k := 1) (n := 16000) (Nat.le_of_ble_eq_true rfl) (Nat.le_of_ble_eq_true rfl) ?_
  refine va_putF (D := (dC, dI)) (ci := 1) (v := .ref q10) (ty := .array .byte) (C := R_Row) (T := T_Row) (N := 2) hx hb hts w_0 ty_Row ty_Row_ok nm_Row hown hK hP hD hS 0 rfl rfl 0 (by decide) (hts _ w_2) (fun _ h9 => h9) rfl hin rfl (by decide +kernel) rfl rfl (Nat.le_of_ble_eq_true rfl) d_Row_init_12 (fun H locs hP hD hS => ?_)
  have hP : va_P (dC, dI) vwCl [(h0, .inr (1, [.ref q10, .int (0 : Int32)])), (q10, .inl (cB, 16000, .inl (fun _ => 0)))] H := hP
  have hD : va_D A [(h0, .inr (1, [.ref q10, .int (0 : Int32)])), (q10, .inl (cB, 16000, .inl (fun _ => 0)))] := hD
  exact s_nret (wn := wn_Row_init16 cB cI cJ h0 ) q10 hx hb hr hlocks hP hK hD hS d_Row_init_15
